theorem gh_R0_of {sh : gz_Sh} {ro : Nat → Nat} {I : gr_I} {J : gr_J} {A Aₚ : gc_A} (hs : gh_HS sh ro I J A) (h : ∀ j t : Nat, (j : Int) < I 8 1 → Aₚ 10 j = some t → A 10 j = some t) : gh_R0 Aₚ I := by
  obtain ⟨hb, hI, hok, hT, hU, hM, hc⟩ := hs
  have h81 : 0 ≤ I 8 1 ∧ I 8 1 ≤ 8 := gc_in hI (gc_bR hb (by decide) rfl) rfl rfl
  refine ⟨⟨gc_in hI (gc_bR hb (by decide) rfl) rfl rfl, gc_in hI (gc_bR hb (by decide) rfl) rfl rfl, gc_in hI (gc_bR hb (by decide) rfl) rfl rfl, h81, gc_in hI (gc_bR hb (by decide) rfl) rfl rfl, (show (0 : Int) ≤ I 1 17 ∧ I 1 17 ≤ 12000 from gc_in hI (gc_bR hb (by decide) rfl) rfl rfl).1, gc_in hI (gc_bR hb (by decide) rfl) rfl rfl⟩, fun j t hj ht => ?_, fun f _ => gc_in hI (gc_bR hb (by decide) rfl) rfl rfl⟩
  obtain ⟨b0, b1, b2, b3, b4, b5, b6, b7, b8, b9, b10, b11, b12, b13, b14, b15, b16, b17, b18, b19, b20, b21, b22, b23, b24, b25, b26, b27, b28, b29, b30, b31, b32, b33, b34, b35, b36, b37, b38, b39, b40, b41, b42, b43, b44⟩ := (hT.1 j t (by omega) (h j t hj ht)).1
  exact ⟨(show (0 : Int) ≤ I (t + 1) 1 ∧ I (t + 1) 1 ≤ 8 from gc_in hI b4.2.1 rfl rfl), (show (0 : Int) ≤ I (t + 3) 1 ∧ I (t + 3) 1 ≤ 48 from gc_in hI b6.2.1 rfl rfl), (show (0 : Int) ≤ I (t + 7) 1 ∧ I (t + 7) 1 ≤ 16 from gc_in hI b16.2.1 rfl rfl), (show (0 : Int) ≤ I t 6 ∧ I t 6 ≤ 24 from gc_in hI b1 rfl rfl), (show (0 : Int) ≤ I (t + 11) 1 ∧ I (t + 11) 1 ≤ 24 from gc_in hI b26.2.1 rfl rfl), (show (0 : Int) ≤ I t 11 ∧ I t 11 ≤ 64 from gc_in hI b1 rfl rfl), (show (0 : Int) ≤ I t 13 ∧ I t 13 ≤ 384 from gc_in hI b1 rfl rfl)⟩
theorem gh_Ts_of {sh : gz_Sh} {ro : Nat → Nat} {I : gr_I} {J : gr_J} {A : gc_A} (hs : gh_HS sh ro I J A) : gc_Ts sh ro A I := fun i hi => by
  obtain ⟨hb, hI, hok, hT, hU, hM, hc⟩ := hs
  have h81 : 0 ≤ I 8 1 ∧ I 8 1 ≤ 8 := gc_in hI (gc_bR hb (by decide) rfl) rfl rfl
  obtain ⟨t, ht, _⟩ := hU i hi
  have h := hT.1 i t (by omega) ht
  exact ⟨t, ht, h.1, h.2.1⟩
def gh_MO (B : Int) (sh : gz_Sh) (ro : Nat → Nat) (I : gr_I) (A : gc_A) (z : Int) (shₚ : gz_Sh) (ro' : Nat → Nat) (Iₚ : gr_I) (Jₚ : gr_J) (Aₚ : gc_A) : Prop := gh_HS shₚ ro' Iₚ Jₚ Aₚ ∧ gh_AO sh ro I A shₚ ro' Iₚ Aₚ ∧ (-1001 ≤ z ∧ z ≤ 1000) ∧ Iₚ 23 1 = 0 ∧ Iₚ 1 17 ≤ B
