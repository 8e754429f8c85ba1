/-! R THROUGH THE OTHER CALLS, and all that the two sides keep together over a script. -/
theorem gs_R_q {I : gr_I} {J : gr_J} {A : gc_A} {Ir Irₚ : gr_I} {Jr Jrₚ : gr_J} (h : gs_R I J A Ir Jr) {ν : Nat} (t9 : gq_T ν Ir Jr Irₚ Jrₚ) : gs_R I J A Irₚ Jrₚ := by
  have t := t9.1
  obtain ⟨n2, n4, n6, n8, gf, gk, hc, hT, h0⟩ := h
  have ri : ∀ a k : Nat, a + 1 ≤ 50 → Irₚ (a + 1) k = Ir (a + 1) k := fun a k ha => (t (a + 1) k (decide_eq_true (Nat.le_succ_of_le ha))).1
  have rj : ∀ a k : Nat, a + 1 ≤ 50 → Jrₚ (a + 1) k = Jr (a + 1) k := fun a k ha => (t (a + 1) k (decide_eq_true (Nat.le_succ_of_le ha))).2
  have ra : gs_rA Ir Jr Irₚ Jrₚ := ⟨fun k => ⟨ri 12 k (by decide), ri 13 k (by decide), ri 14 k (by decide), ri 15 k (by decide), ri 16 k (by decide), ri 17 k (by decide), ri 18 k (by decide)⟩, fun k => ⟨ri 23 k (by decide), ri 24 k (by decide), ri 30 k (by decide), ri 31 k (by decide), ri 40 k (by decide)⟩, fun k => ⟨rj 19 k (by decide), rj 20 k (by decide), rj 21 k (by decide), rj 22 k (by decide)⟩⟩
  exact ⟨gs_GN_fr n2 rfl (fun _ => rfl) (t 0 2 rfl).1 (fun k => rj 1 k (by decide)), gs_GN_fr n4 rfl (fun _ => rfl) (t 0 3 rfl).1 (fun k => rj 2 k (by decide)), gs_GN_fr n6 rfl (fun _ => rfl) (t 0 4 rfl).1 (fun k => rj 3 k (by decide)), gs_GN_fr n8 rfl (fun _ => rfl) (t 0 1 rfl).1 (fun k => rj 0 k (by decide)), gs_GF_fr gf rfl (fun _ => rfl) (fun _ => rfl) (t 0 5 rfl).1 (fun k => ⟨rj 4 k (by decide), ri 10 k (by decide), ri 11 k (by decide)⟩), gs_GK_fr gk rfl (fun _ => rfl) (fun _ => rfl) (fun _ => rfl) (fun _ => rfl) (fun k => ⟨ri 5 k (by decide), ri 6 k (by decide), ri 7 k (by decide), ri 9 k (by decide)⟩) (fun _ => rfl) (fun k => ri 8 k (by decide)), hc.trans (t 0 6 rfl).1.symm, fun i t hi hA => gs_RT_fr (hT i t hi hA) ⟨⟨rfl, fun _ => rfl⟩, ⟨rfl, fun _ => rfl, fun _ => rfl, fun _ => rfl⟩, ⟨rfl, fun _ => rfl⟩, rfl, ⟨rfl, fun _ => rfl, fun _ => rfl, fun _ => rfl⟩, rfl, rfl, fun k q _ hA => ⟨hA, rfl⟩⟩ ra, gs_G0_fr h0 (by rw [(t 0 1 rfl).1]; exact Int.le_refl _) (fun i _ _ => ra.1 i)⟩
theorem gs_R_K {sh : gz_Sh} {ro : Nat → Nat} {I Iₚ : gr_I} {J Jₚ : gr_J} {A : gc_A} {Ir : gr_I} {Jr : gr_J} (hs : gh_HS sh ro I J A) (h : gs_R I J A Ir Jr) (k : gh_SE sh ro A I Iₚ J Jₚ) : gs_R Iₚ Jₚ A Ir Jr := by
  obtain ⟨f, ft, fl, fj⟩ := k
  have i8 : 0 ≤ I 8 1 ∧ I 8 1 ≤ 8 := gc_in hs.2.1 (gc_bR hs.1 (by decide) rfl) rfl rfl
  refine gs_R_same h ⟨⟨f 2 1 (by decide) (by decide), f 4 1 (by decide) (by decide), f 6 1 (by decide) (by decide), f 8 1 (by decide) (by decide)⟩, fun k => ⟨fj 3 k (Or.inl (by decide)), fj 5 k (Or.inl (by decide)), fj 7 k (Or.inl (by decide)), fj 9 k (Or.inl (by decide)), fj 18 k (Or.inl (by decide))⟩, ⟨f 1 13 (by decide) (by decide), f 1 5 (by decide) (by decide)⟩, fun k => ⟨f 11 k (by decide) (by decide), f 12 k (by decide) (by decide), f 13 k (by decide) (by decide), f 15 k (by decide) (by decide), f 19 k (by decide) (by decide), f 14 k (by decide) (by decide)⟩⟩ (fun i t hi ht => ⟨ht, ?_⟩)
  have t4 := (gs_hT9 hs hi ht).2
  have g : ∀ d j : Nat, d < 17 → Iₚ (t + d) j = I (t + d) j := fun d j hd => ft i t d j (by omega) ht hd
  have gj : ∀ d j : Nat, Jₚ (t + d) j = J (t + d) j := fun d j => fj (t + d) j (Or.inr (by omega))
  refine ⟨⟨g 1 1 (by decide), fun k => gj 2 k⟩, ⟨g 3 1 (by decide), fun k => gj 4 k, fun k => g 5 k (by decide), fun k => g 6 k (by decide)⟩, ⟨g 7 1 (by decide), fun k => gj 8 k⟩, g 0 6 (by decide), ⟨g 11 1 (by decide), fun k => gj 12 k, fun k => g 13 k (by decide), fun k => g 14 k (by decide)⟩, g 0 11 (by decide), g 0 13 (by decide), fun k q hk hA => ⟨hA, ?_⟩⟩
  have l := gs_hL9 hs hi ht k q hk hA
  exact fl q l.2 l.1 0 1 (by decide)
theorem gs_R_AD {sh shₚ : gz_Sh} {ro ro' : Nat → Nat} {I Iₚ : gr_I} {J Jₚ : gr_J} {A Aₚ : gc_A} {Ir : gr_I} {Jr : gr_J} {a s : Nat} (hs : gh_HS sh ro I J A) (h : gs_R I J A Ir Jr) (k : gh_AD sh ro I A a s shₚ ro' Iₚ Jₚ Aₚ) (kj : ∀ q j : Nat, Jₚ q j = J q j) : gs_R Iₚ Jₚ Aₚ Ir Jr := by
  obtain ⟨_, _, _, _, _, _, f9, fa⟩ := k
  have h144 := gc_Base_len hs.1
  have i8 : 0 ≤ I 8 1 ∧ I 8 1 ≤ 8 := gc_in hs.2.1 (gc_bR hs.1 (by decide) rfl) rfl rfl
  have f : ∀ q j : Nat, 1 ≤ q → q ≤ 21 → Iₚ q j = I q j := fun q j h1 h2 => (f9 q j (by omega)).resolve_left (by omega)
  refine gs_R_same h ⟨⟨f 2 1 (by decide) (by decide), f 4 1 (by decide) (by decide), f 6 1 (by decide) (by decide), f 8 1 (by decide) (by decide)⟩, fun k => ⟨kj 3 k, kj 5 k, kj 7 k, kj 9 k, kj 18 k⟩, ⟨f 1 13 (by decide) (by decide), f 1 5 (by decide) (by decide)⟩, fun k => ⟨f 11 k (by decide) (by decide), f 12 k (by decide) (by decide), f 13 k (by decide) (by decide), f 15 k (by decide) (by decide), f 19 k (by decide) (by decide), f 14 k (by decide) (by decide)⟩⟩ (fun i t hi ht' => ?_)
  have ht : A 10 i = some t := (fa 10 i (by decide)).symm.trans ht'
  have rg := gh_rng hs.2.2.2.1 (i := i) (by omega) ht
  have g : ∀ d j : Nat, d < 17 → Iₚ (t + d) j = I (t + d) j := fun d j hd => (f9 (t + d) j (by omega)).resolve_left (by omega)
  refine ⟨ht, ⟨g 1 1 (by decide), fun k => kj _ k⟩, ⟨g 3 1 (by decide), fun k => kj _ k, fun k => g 5 k (by decide), fun k => g 6 k (by decide)⟩, ⟨g 7 1 (by decide), fun k => kj _ k⟩, g 0 6 (by decide), ⟨g 11 1 (by decide), fun k => kj _ k, fun k => g 13 k (by decide), fun k => g 14 k (by decide)⟩, g 0 11 (by decide), g 0 13 (by decide), fun k q hk hA' => ?_⟩
  have hA : A (t + 16) k = some q := (fa (t + 16) k (by omega)).symm.trans hA'
  have l := gs_hL9 hs hi ht k q hk hA
  have lq := gc_x_lt (gc_linS8 l.2)
  exact ⟨hA, (f9 q 1 (by omega)).resolve_left (by omega)⟩
/-! RULES and CLASSES through the other calls (p8) -/
theorem gs_RS_q {I : gr_I} {J : gr_J} {A : gc_A} {Ir Irₚ : gr_I} {Jr Jrₚ : gr_J} (h : gs_RS I A Ir) (hR : gs_R I J A Ir Jr) {ν : Nat} (t9 : gq_T ν Ir Jr Irₚ Jrₚ) : gs_RS I A Irₚ := by
  have t := t9.1
  have ri : ∀ a k : Nat, a + 1 ≤ 51 → Irₚ (a + 1) k = Ir (a + 1) k := fun a k ha => (t (a + 1) k (decide_eq_true ha)).1
  exact gs_RS_fr h hR rfl gc_PKs_rf (fun i t hi hA => ⟨hA, rfl, fun _ => rfl, rfl, fun _ => rfl⟩) (gr_LKs_fr gr_LKs_rf (fun k => ri 50 k (by decide)) (t 0 59 rfl).1) (fun j => ⟨ri 14 j (by decide), ri 15 j (by decide)⟩) (fun j => ⟨ri 25 j (by decide), ri 26 j (by decide), ri 27 j (by decide), ri 28 j (by decide), ri 29 j (by decide)⟩)
theorem gs_RS_K {sh : gz_Sh} {ro : Nat → Nat} {I Iₚ : gr_I} {J Jₚ : gr_J} {A : gc_A} {Ir : gr_I} {Jr : gr_J} (hs : gh_HS sh ro I J A) (h : gs_RS I A Ir) (hR : gs_R I J A Ir Jr) (k : gh_SE sh ro A I Iₚ J Jₚ) : gs_RS Iₚ A Ir := by
  obtain ⟨f, ft, _, _⟩ := k
  have i8 : 0 ≤ I 8 1 ∧ I 8 1 ≤ 8 := gc_in hs.2.1 (gc_bR hs.1 (by decide) rfl) rfl rfl
  refine gs_RS_fr h hR (f 8 1 (by decide) (by decide)) (gc_PKs_fr gc_PKs_rf (f 1 17 (by decide) (by decide)) (fun k => f 20 k (by decide) (by decide))) (fun i t hi ht => ⟨ht, ?_⟩) gr_LKs_rf (fun _ => ⟨rfl, rfl⟩) (fun _ => ⟨rfl, rfl, rfl, rfl, rfl⟩)
  have g : ∀ d j : Nat, d < 17 → Iₚ (t + d) j = I (t + d) j := fun d j hd => ft i t d j (by omega) ht hd
  exact ⟨g 7 1 (by decide), fun k => g 9 k (by decide), g 0 6 (by decide), fun k => g 10 k (by decide)⟩
theorem gs_RS_AD {sh shₚ : gz_Sh} {ro ro' : Nat → Nat} {I Iₚ : gr_I} {J Jₚ : gr_J} {A Aₚ : gc_A} {Ir : gr_I} {Jr : gr_J} {a s : Nat} (hs : gh_HS sh ro I J A) (h : gs_RS I A Ir) (hR : gs_R I J A Ir Jr) (k : gh_AD sh ro I A a s shₚ ro' Iₚ Jₚ Aₚ) : gs_RS Iₚ Aₚ Ir := by
  obtain ⟨_, _, _, _, _, _, f9, fa⟩ := k
  have h144 := gc_Base_len hs.1
  have i8 : 0 ≤ I 8 1 ∧ I 8 1 ≤ 8 := gc_in hs.2.1 (gc_bR hs.1 (by decide) rfl) rfl rfl
  have f : ∀ q j : Nat, 1 ≤ q → q ≤ 21 → Iₚ q j = I q j := fun q j h1 h2 => (f9 q j (by omega)).resolve_left (by omega)
  refine gs_RS_fr h hR (f 8 1 (by decide) (by decide)) (gc_PKs_fr gc_PKs_rf (f 1 17 (by decide) (by decide)) (fun k => f 20 k (by decide) (by decide))) (fun i t hi ht' => ?_) gr_LKs_rf (fun _ => ⟨rfl, rfl⟩) (fun _ => ⟨rfl, rfl, rfl, rfl, rfl⟩)
  have ht : A 10 i = some t := (fa 10 i (by decide)).symm.trans ht'
  have rg := gh_rng hs.2.2.2.1 (i := i) (by omega) ht
  have g : ∀ d j : Nat, d < 17 → Iₚ (t + d) j = I (t + d) j := fun d j hd => (f9 (t + d) j (by omega)).resolve_left (by omega)
  exact ⟨ht, g 7 1 (by decide), fun k => g 9 k (by decide), g 0 6 (by decide), fun k => g 10 k (by decide)⟩
theorem gs_RV_q {I : gr_I} {J : gr_J} {A : gc_A} {Ir Irₚ : gr_I} {Jr Jrₚ : gr_J} (h : gs_RV I A Ir) (hR : gs_R I J A Ir Jr) (b8 : I 8 1 ≤ 8) {ν : Nat} (t9 : gq_T ν Ir Jr Irₚ Jrₚ) : gs_RV I A Irₚ := by
  have t := t9.1
  have ri : ∀ a k : Nat, a + 1 ≤ 51 → Irₚ (a + 1) k = Ir (a + 1) k := fun a k ha => (t (a + 1) k (decide_eq_true ha)).1
  exact ⟨gs_RS_q h.1 hR t9, gs_RW_fr h.2 hR b8 rfl gc_PKs_rf (fun i t _ hA => ⟨hA, ⟨rfl, fun _ => rfl, fun _ => rfl⟩, rfl, fun _ => rfl⟩) ⟨gr_LKs_fr gr_LKs_rf (fun k => ri 50 k (by decide)) (t 0 59 rfl).1, gr_PTs_fr gr_PTs_rf (fun k => ri 34 k (by decide)) (t 0 42 rfl).1⟩ (t 0 3 rfl).1 (fun a ha j => by
    have h5 := (show ∀ x ∈ [17, 31, 32, 33, 34, 36, 37, 38, 39, 40], 1 ≤ x ∧ x ≤ 51 by decide) a (List.elem_iff.mp ha)
    obtain ⟨b, rfl⟩ : ∃ b, a = b + 1 := ⟨a - 1, by omega⟩
    exact ri b j (by omega))⟩
theorem gs_RV_K {sh : gz_Sh} {ro : Nat → Nat} {I Iₚ : gr_I} {J Jₚ : gr_J} {A : gc_A} {Ir : gr_I} {Jr : gr_J} (hs : gh_HS sh ro I J A) (h : gs_RV I A Ir) (hR : gs_R I J A Ir Jr) (k : gh_SE sh ro A I Iₚ J Jₚ) : gs_RV Iₚ A Ir := by
  refine ⟨gs_RS_K hs h.1 hR k, ?_⟩
  obtain ⟨f, ft, _, _⟩ := k
  have i8 : 0 ≤ I 8 1 ∧ I 8 1 ≤ 8 := gc_in hs.2.1 (gc_bR hs.1 (by decide) rfl) rfl rfl
  refine gs_RW_fr h.2 hR i8.2 (f 8 1 (by decide) (by decide)) (gc_PKs_fr gc_PKs_rf (f 1 17 (by decide) (by decide)) (fun k => f 20 k (by decide) (by decide))) (fun i t hi ht => ⟨ht, ?_⟩) gr_LV_rf rfl (fun _ _ _ => rfl)
  have g : ∀ d j : Nat, d < 17 → Iₚ (t + d) j = I (t + d) j := fun d j hd => ft i t d j (by omega) ht hd
  exact ⟨⟨g 11 1 (by decide), fun k => g 13 k (by decide), fun k => g 14 k (by decide)⟩, g 0 11 (by decide), fun k => g 15 k (by decide)⟩
theorem gs_RV_AD {sh shₚ : gz_Sh} {ro ro' : Nat → Nat} {I Iₚ : gr_I} {J Jₚ : gr_J} {A Aₚ : gc_A} {Ir : gr_I} {Jr : gr_J} {a s : Nat} (hs : gh_HS sh ro I J A) (h : gs_RV I A Ir) (hR : gs_R I J A Ir Jr) (k : gh_AD sh ro I A a s shₚ ro' Iₚ Jₚ Aₚ) : gs_RV Iₚ Aₚ Ir := by
  refine ⟨gs_RS_AD hs h.1 hR k, ?_⟩
  obtain ⟨_, _, _, _, _, _, f9, fa⟩ := k
  have h144 := gc_Base_len hs.1
  have i8 : 0 ≤ I 8 1 ∧ I 8 1 ≤ 8 := gc_in hs.2.1 (gc_bR hs.1 (by decide) rfl) rfl rfl
  have f : ∀ q j : Nat, 1 ≤ q → q ≤ 21 → Iₚ q j = I q j := fun q j h1 h2 => (f9 q j (by omega)).resolve_left (by omega)
  refine gs_RW_fr h.2 hR i8.2 (f 8 1 (by decide) (by decide)) (gc_PKs_fr gc_PKs_rf (f 1 17 (by decide) (by decide)) (fun k => f 20 k (by decide) (by decide))) (fun i t hi ht' => ?_) gr_LV_rf rfl (fun _ _ _ => rfl)
  have ht : A 10 i = some t := (fa 10 i (by decide)).symm.trans ht'
  have rg := gh_rng hs.2.2.2.1 (i := i) (by omega) ht
  have g : ∀ d j : Nat, d < 17 → Iₚ (t + d) j = I (t + d) j := fun d j hd => (f9 (t + d) j (by omega)).resolve_left (by omega)
  exact ⟨ht, ⟨g 11 1 (by decide), fun k => g 13 k (by decide), fun k => g 14 k (by decide)⟩, g 0 11 (by decide), fun k => g 15 k (by decide)⟩
/-- module() of the class beside the reference's -/
theorem gk_module_p {ws0 : List Cond} {tb : String → gz_T} (hw : gc_Wn ws0) (hws : gc_Ws ws0) (htb : gc_tbs tb) {sh : gz_Sh} {ro : Nat → Nat} {I : gr_I} {J : gr_J} {A : gc_A} (hs : gh_HS sh ro I J A) (hc : gh_HC sh ro A I) (x0 : I 1 17 + I 23 1 ≤ 1280) (β : Int → Int) (r : Int) (Ir0 IrE : gr_I) (Jr0 JrE : gr_J) (yt : gs_TX β (I 23 1) (I 24)) (yR0 : gs_R I J A Ir0 Jr0) (yS0 : gs_RV I A Ir0) (yM : gs_MD β (I 23 1) r Ir0 Jr0 IrE JrE) (hlen : sh.length + 25 * gh_nl A + 9 * (Int.toNat (I 23 1) + 1) ≤ 999000) : ∃ (z : Int) (a s : Nat) (shₚ : gz_Sh) (ro' : Nat → Nat) (Iₚ : gr_I) (Jₚ : gr_J) (Aₚ : gc_A), gz_Ev ws0 tb 100 (yX12_module, cX12_module, 2, (some .int)) [.inr (.inr (some 0))] sh (gc_h sh I J A) (some (.inl z)) shₚ (gc_h shₚ Iₚ Jₚ Aₚ) a s ∧ gh_HC shₚ ro' Aₚ Iₚ ∧ gh_MO (I 1 17 + I 23 1) sh ro I A z shₚ ro' Iₚ Jₚ Aₚ ∧ (z = r ∧ gs_R Iₚ Jₚ Aₚ IrE JrE ∧ gs_RV Iₚ Aₚ IrE ∧ gs_CV I A Iₚ Aₚ) ∧ (a + 25 * gh_nl Aₚ ≤ 25 * gh_nl A + 9 * (Int.toNat (I 23 1) + 1) ∧ s + 45714 * gh_nl Aₚ ≤ 45714 * gh_nl A + 82 * (Int.toNat (I 23 1) + 1) ∧ shₚ.length + 25 * gh_nl Aₚ ≤ sh.length + 25 * gh_nl A + 9 * (Int.toNat (I 23 1) + 1)) := by
  obtain ⟨z, a, s, shₚ, ro', Iₚ, Jₚ, Aₚ, h1, ⟨h2, h4, h5⟩, h3⟩ := e_X12_module_p hw hws htb sh ro I J A hs (I 1 17 + I 23 1) ⟨x0, Int.le_refl _⟩ β (I 23 1) r Ir0 IrE Jr0 JrE yt rfl yR0 yS0 yM hlen
  exact ⟨z, a, s, shₚ, ro', Iₚ, Jₚ, Aₚ, gz_Ev_mono (d := 93) (by decide) h1, gh_HC_m hs h2.1 h2.2.1 hc (fun i t hi ht ht' fr h8 k => gs_KV yR0 yS0 (gs_h8_of hs) h5.2.2 hi ht ht' fr h8 k), h2, ⟨h4, h5.1, h5.2.1, h5.2.2⟩, h3⟩
/-! what is noted on both sides -/
def gs_Na (I : gr_I) (A : gc_A) (Ir : gr_I) : Prop := I 100 2 = Ir 0 132 ∧ (∀ j : Nat, (j : Int) < I 100 2 → I 101 j = Ir 80 j) ∧ (0 < I 100 2 → (0 ≤ I 100 1 ∧ I 100 1 < I 8 1) ∧ I 100 1 = Ir 0 133 ∧ ∀ t : Nat, A 10 (Int.toNat (I 100 1)) = some t → ∀ j : Nat, (j : Int) < I 100 2 → fo_al I t (I 101 j))
def gs_Nb (I Ir : gr_I) : Prop := I 100 4 = Ir 0 136 ∧ (¬ I 100 4 = 0 → I 100 7 = Ir 0 137 ∧ I 100 8 = Ir 0 138 ∧ ∀ k : Nat, (k : Int) < I 100 4 → I 102 k = Ir 81 k ∧ I 103 k = Ir 82 k)
def gs_NT (I : gr_I) (A : gc_A) (Ir : gr_I) : Prop := gs_Na I A Ir ∧ gs_Nb I Ir
section NT9
variable {sh shₚ : gz_Sh} {ro ro' : Nat → Nat} {I Iₚ : gr_I} {J Jₚ : gr_J} {A Aₚ : gc_A} {Ir Irₚ : gr_I} {Jr : gr_J}
theorem gs_Nb_s (h : gs_Nb I Ir) (a : gh_Nb I Iₚ) (b : gr_Nb Ir Irₚ) : gs_Nb Iₚ Irₚ := by
  obtain ⟨h1, h2⟩ := h
  obtain ⟨a1, a2, a3, a4, a5⟩ := a
  obtain ⟨b1, b2, b3, b4, b5⟩ := b
  refine ⟨by omega, fun n => ?_⟩
  obtain ⟨c1, c2, c3⟩ := h2 (by omega)
  exact ⟨by omega, by omega, fun k hk => by rw [a4, a5, b4, b5]; exact c3 k (by omega)⟩
theorem gs_Na_s (h : gs_Na I A Ir) (a : gh_Na I Iₚ) (b : gr_Na Ir Irₚ) (e8 : I 8 1 ≤ Iₚ 8 1) (al : ∀ t : Nat, (0 ≤ I 100 1 ∧ I 100 1 < I 8 1) → Aₚ 10 (Int.toNat (I 100 1)) = some t → A 10 (Int.toNat (I 100 1)) = some t ∧ ∀ x, fo_al I t x → fo_al Iₚ t x) : gs_Na Iₚ Aₚ Irₚ := by
  obtain ⟨h1, h2, h3⟩ := h
  obtain ⟨a1, a2, a3⟩ := a
  obtain ⟨b1, b2, b3⟩ := b
  refine ⟨by omega, fun j hj => by rw [a3, b3]; exact h2 j (by omega), fun n => ?_⟩
  obtain ⟨c1, c2, c3⟩ := h3 (by omega)
  refine ⟨by omega, by omega, fun t ht j hj => ?_⟩
  rw [a1] at ht
  rw [a3]
  obtain ⟨ht0, al0⟩ := al t c1 ht
  exact al0 _ (c3 t ht0 j (by omega))
theorem gs_NT_s {ν : Nat} (hν : ¬ ν = 1 ∧ ¬ ν = 2) (hs : gh_HS sh ro I J A) (h : gs_NT I A Ir) (k : gh_SE sh ro A I Iₚ J Jₚ) (e : gh_E9 ν I Iₚ) (t : gr_E9 ν Ir Irₚ) : gs_NT Iₚ A Irₚ := by
  have i8 : 0 ≤ I 8 1 ∧ I 8 1 ≤ 8 := gc_in hs.2.1 (gc_bR hs.1 (by decide) rfl) rfl rfl
  refine ⟨gs_Na_s h.1 (e.2.1 hν.1) (t.1 hν.1) (Int.le_of_eq (k.1 8 1 (by decide) (by decide)).symm) (fun t9 c ht => ⟨ht, fun x hx => ?_⟩), gs_Nb_s h.2 (e.2.2.1 hν.2) (t.2.1 hν.2)⟩
  have u := gh_SE_tb k (i := Int.toNat (I 100 1)) (by omega) ht
  rw [gh_tb_al u]
  exact hx
/-- a call that throws -/
theorem gs_NT_r {ν : Nat} (hν : ¬ ν = 1 ∧ ¬ ν = 2) (h : gs_NT I A Ir) (t : gr_E9 ν Ir Irₚ) : gs_NT I A Irₚ := ⟨gs_Na_s h.1 ⟨rfl, rfl, fun _ => rfl⟩ (t.1 hν.1) (Int.le_refl _) (fun _ _ ht => ⟨ht, fun _ hx => hx⟩), gs_Nb_s h.2 ⟨rfl, rfl, rfl, fun _ => rfl, fun _ => rfl⟩ (t.2.1 hν.2)⟩
theorem gs_NT_AD {a s : Nat} (hs : gh_HS sh ro I J A) (h : gs_NT I A Ir) (k : gh_AD sh ro I A a s shₚ ro' Iₚ Jₚ Aₚ) (t : gr_E9 0 Ir Irₚ) : gs_NT Iₚ Aₚ Irₚ := by
  obtain ⟨_, _, _, _, _, _, f9, fa⟩ := k
  have h144 := gc_Base_len hs.1
  have i8 : 0 ≤ I 8 1 ∧ I 8 1 ≤ 8 := gc_in hs.2.1 (gc_bR hs.1 (by decide) rfl) rfl rfl
  have f : ∀ q j : Nat, q < sh.length → ¬ (q = 23 ∨ q = 25 ∨ q = 26 ∨ q = 105 ∨ (q = 100 ∧ j = 9)) → Iₚ q j = I q j := fun q j h1 h2 => (f9 q j h1).resolve_left h2
  refine ⟨gs_Na_s h.1 ⟨f 100 1 (by omega) (by omega), f 100 2 (by omega) (by omega), fun k => f 101 k (by omega) (by omega)⟩ (t.1 (by decide)) (Int.le_of_eq (f 8 1 (by omega) (by omega)).symm) (fun t9 c ht' => ?_), gs_Nb_s h.2 ⟨f 100 4 (by omega) (by omega), f 100 7 (by omega) (by omega), f 100 8 (by omega) (by omega), fun k => f 102 k (by omega) (by omega), fun k => f 103 k (by omega) (by omega)⟩ (t.2.1 (by decide))⟩
  have ht : A 10 (Int.toNat (I 100 1)) = some t9 := (fa 10 _ (by decide)).symm.trans ht'
  have rg := gh_rng hs.2.2.2.1 (i := Int.toNat (I 100 1)) (by omega) ht
  have u : gh_tb I Iₚ t9 := ⟨fun j => f 20 j (by omega) (by omega), fun d j _ h2 => f (t9 + d) j (by omega) (by omega), f t9 6 (by omega) (by omega), f t9 11 (by omega) (by omega)⟩
  exact ⟨ht, fun x hx => by rw [gh_tb_al u]; exact hx⟩
/-- a module -/
theorem gs_NT_m {B z : Int} (hs : gh_HS sh ro I J A) (hR : gs_R I J A Ir Jr) (yS : gs_RV I A Ir) (b8 : I 8 1 ≤ 8) (h : gs_NT I A Ir) (k : gh_MO B sh ro I A z shₚ ro' Iₚ Jₚ Aₚ) (cv : gs_CV I A Iₚ Aₚ) (t : gr_E9 0 Ir Irₚ) : gs_NT Iₚ Aₚ Irₚ := by
  obtain ⟨_, ⟨_, f9, _, _, _, ⟨e8, _⟩, fA, _⟩, _⟩ := k
  have f : ∀ q j : Nat, q < 144 → ¬ gh_mw q → Iₚ q j = I q j := fun q j h1 h2 => (f9 q j h1).resolve_left h2
  have n0 : ∀ q : Nat, 100 ≤ q → ¬ gh_mw q := fun q hq g => by
    unfold gh_mw at g
    omega
  refine ⟨gs_Na_s h.1 ⟨f 100 1 (by decide) (n0 _ (by decide)), f 100 2 (by decide) (n0 _ (by decide)), fun k => f 101 k (by decide) (n0 _ (by decide))⟩ (t.1 (by decide)) e8 (fun t9 c ht' => ?_), gs_Nb_s h.2 ⟨f 100 4 (by decide) (n0 _ (by decide)), f 100 7 (by decide) (n0 _ (by decide)), f 100 8 (by decide) (n0 _ (by decide)), fun k => f 102 k (by decide) (n0 _ (by decide)), fun k => f 103 k (by decide) (n0 _ (by decide))⟩ (t.2.1 (by decide))⟩
  obtain ⟨t0, h0, _⟩ := hs.2.2.2.2.1 (Int.toNat (I 100 1)) (by omega)
  have e0 : t9 = t0 := Option.some.inj (ht'.symm.trans (fA _ t0 (by omega) h0))
  rw [e0]
  rw [e0] at ht'
  have hi : ((Int.toNat (I 100 1) : Nat) : Int) < I 8 1 := by omega
  obtain ⟨pk, _, ck⟩ := cv.1
  obtain ⟨_, l11, kd⟩ := cv.2.2 _ t0 hi ht'
  refine ⟨h0, fun x hx => ?_⟩
  obtain ⟨w, c9, e, w0, w1, c0, c1⟩ := hx
  exact ⟨w, c9, e, w0, by omega, c0, by rw [(gs_KVw hR yS b8 hi h0 pk kd w0 w1).1]; exact c1⟩
end NT9
/-- both sides after n calls -/
def gp_P (n a s : Nat) (sh : gz_Sh) (ro : Nat → Nat) (I : gr_I) (J : gr_J) (A : gc_A) (Ir : gr_I) (Jr : gr_J) : Prop := gk_St n a s sh ro I J A ∧ (gq_St n Ir ∧ gr_KW Jr ∧ gr_KQ Ir ∧ gs_NT I A Ir) ∧ gs_R I J A Ir Jr ∧ I 23 1 = Ir 0 68 ∧ (∀ k : Nat, (k : Int) < I 23 1 → I 24 k = Ir 56 k) ∧ gs_RV I A Ir
section UC
variable {n a s : Nat} {sh : gz_Sh} {ro : Nat → Nat} {I Iₚ : gr_I} {J Jₚ : gr_J} {A : gc_A} {Ir Irₚ : gr_I} {Jr Jrₚ : gr_J} {tp : Int}
theorem gp_kp {ν : Nat} (h : gp_P n a s sh ro I J A Ir Jr) (k : gh_K sh ro A I J Iₚ Jₚ tp ν) (ht : tp ≤ I 23 1) (q : gq_St (n + 1) Irₚ) (t : gq_T ν Ir Jr Irₚ Jrₚ ∧ ∀ k, Irₚ 56 k = Ir 56 k) (e : Irₚ 0 68 = tp) (hν : ¬ ν = 1 ∧ ¬ ν = 2 := by decide) : gp_P (n + 1) a s sh ro Iₚ Jₚ A Irₚ Jrₚ := by
  obtain ⟨h1, ⟨h2, h3⟩, h4, h5, h6, h7⟩ := h
  refine ⟨gk_kp h1 k (by omega), ⟨q, gq_T_kw t.1 h3.1, t.1.2.1 h3.2.1, gs_NT_s hν h1.1 h3.2.2 k.2.2.1 k.2.2.2.2.2 t.1.2.2⟩, gs_R_q (gs_R_K h1.1 h4 k.2.2.1) t.1, k.2.2.2.1.trans e.symm, fun j hj => ?_, gs_RV_q (gs_RV_K h1.1 h7 h4 k.2.2.1) (gs_R_K h1.1 h4 k.2.2.1) (gs_h8_of k.1) t.1⟩
  rw [k.2.2.2.1] at hj
  rw [k.2.2.2.2.1 j (by omega), t.2 j]
  exact h6 j (by omega)
theorem gp_kn {ν : Nat} (h : gp_P n a s sh ro I J A Ir Jr) (k : gh_K sh ro A I J Iₚ Jₚ tp ν) (ht : tp ≤ I 23 1) (q : gq_St (n + 1) Irₚ) (t : gq_T ν Ir Jr Irₚ Jrₚ ∧ ∀ k, Irₚ 56 k = Ir 56 k) (e : Irₚ 0 68 = tp) (nt : gs_NT Iₚ A Irₚ) : gp_P (n + 1) a s sh ro Iₚ Jₚ A Irₚ Jrₚ := by
  obtain ⟨h1, ⟨h2, h3⟩, h4, h5, h6, h7⟩ := h
  refine ⟨gk_kp h1 k (by omega), ⟨q, gq_T_kw t.1 h3.1, t.1.2.1 h3.2.1, nt⟩, gs_R_q (gs_R_K h1.1 h4 k.2.2.1) t.1, k.2.2.2.1.trans e.symm, fun j hj => ?_, gs_RV_q (gs_RV_K h1.1 h7 h4 k.2.2.1) (gs_R_K h1.1 h4 k.2.2.1) (gs_h8_of k.1) t.1⟩
  rw [k.2.2.2.1] at hj
  rw [k.2.2.2.2.1 j (by omega), t.2 j]
  exact h6 j (by omega)
theorem gp_th {ν : Nat} (h : gp_P n a s sh ro I J A Ir Jr) (q : gq_St (n + 1) Irₚ) (t : gq_T ν Ir Jr Irₚ Jrₚ ∧ ∀ k, Irₚ 56 k = Ir 56 k) (e : Irₚ 0 68 = Ir 0 68) (hν : ¬ ν = 1 ∧ ¬ ν = 2 := by decide) : gp_P (n + 1) (a + 1) (s + 6) sh ro I J A Irₚ Jrₚ := by
  obtain ⟨h1, ⟨h2, h3⟩, h4, h5, h6, h7⟩ := h
  exact ⟨gk_th h1, ⟨q, gq_T_kw t.1 h3.1, t.1.2.1 h3.2.1, gs_NT_r hν h3.2.2 t.1.2.2⟩, gs_R_q h4 t.1, h5.trans e.symm, fun j hj => (h6 j hj).trans (t.2 j).symm, gs_RV_q h7 h4 (gs_h8_of h1.1) t.1⟩
theorem gp_tn {ν : Nat} (h : gp_P n a s sh ro I J A Ir Jr) (q : gq_St (n + 1) Irₚ) (t : gq_T ν Ir Jr Irₚ Jrₚ ∧ ∀ k, Irₚ 56 k = Ir 56 k) (e : Irₚ 0 68 = Ir 0 68) (nt : gs_NT I A Irₚ) : gp_P (n + 1) (a + 1) (s + 6) sh ro I J A Irₚ Jrₚ := by
  obtain ⟨h1, ⟨h2, h3⟩, h4, h5, h6, h7⟩ := h
  exact ⟨gk_th h1, ⟨q, gq_T_kw t.1 h3.1, t.1.2.1 h3.2.1, nt⟩, gs_R_q h4 t.1, h5.trans e.symm, fun j hj => (h6 j hj).trans (t.2 j).symm, gs_RV_q h7 h4 (gs_h8_of h1.1) t.1⟩
theorem gp_fd {a1 a2 a3 a4 a5 : Int} (h : gp_P n a s sh ro I J A Ir Jr) (k : gh_K sh ro A I J Iₚ Jₚ (I 23 1 + 20) 0) (f : gs_F5 a1 a2 a3 a4 a5 (Int.toNat (I 23 1)) (I 24) (Iₚ 24)) (q : gq_St (n + 1) Irₚ) (t : gq_T 0 Ir Jr Irₚ Jrₚ) (e : Irₚ 0 68 = Ir 0 68 + 20) (g : gs_F5 a1 a2 a3 a4 a5 (Int.toNat (Ir 0 68)) (Ir 56) (Irₚ 56)) : gp_P (n + 1) a s sh ro Iₚ Jₚ A Irₚ Jrₚ := by
  obtain ⟨h1, ⟨h2, h3⟩, h4, h5, h6, h7⟩ := h
  have i1 := gk_tp h1.1
  refine ⟨gk_kp h1 k (Int.le_refl _), ⟨q, gq_T_kw t h3.1, t.2.1 h3.2.1, gs_NT_s (by decide) h1.1 h3.2.2 k.2.2.1 k.2.2.2.2.2 t.2.2⟩, gs_R_q (gs_R_K h1.1 h4 k.2.2.1) t, by rw [k.2.2.2.1, e, h5], fun j hj => ?_, gs_RV_q (gs_RV_K h1.1 h7 h4 k.2.2.1) (gs_R_K h1.1 h4 k.2.2.1) (gs_h8_of k.1) t⟩
  rw [k.2.2.2.1] at hj
  rw [← h5] at g
  exact gs_F5_eq f g (fun j hj => h6 j (by omega)) j (by omega)
theorem gp_ad {a1 s1 : Nat} {shₚ : gz_Sh} {ro' : Nat → Nat} {Aₚ : gc_A} (h : gp_P n a s sh ro I J A Ir Jr) (k : gh_AD sh ro I A a1 s1 shₚ ro' Iₚ Jₚ Aₚ) (kj : ∀ q j : Nat, Jₚ q j = J q j) (q : gq_St (n + 1) Irₚ) (t : gq_T 0 Ir Jr Irₚ Jrₚ) (e : Irₚ 0 68 = 0) : gp_P (n + 1) (a + a1) (s + s1) shₚ ro' Iₚ Jₚ Aₚ Irₚ Jrₚ := by
  obtain ⟨h1, ⟨h2, h3⟩, h4, h5, h6, h7⟩ := h
  have e0 : Iₚ 23 1 = 0 := k.2.2.2.1
  exact ⟨gk_ad h1 k, ⟨q, gq_T_kw t h3.1, t.2.1 h3.2.1, gs_NT_AD h1.1 h3.2.2 k t.2.2⟩, gs_R_q (gs_R_AD h1.1 h4 k kj) t, e0.trans e.symm, fun j hj => absurd hj (by omega), gs_RV_q (gs_RV_AD h1.1 h7 h4 k) (gs_R_AD h1.1 h4 k kj) (gs_h8_of k.1) t⟩
theorem gp_mo {a1 s1 : Nat} {z : Int} {shₚ : gz_Sh} {ro' : Nat → Nat} {Aₚ : gc_A} (h : gp_P n a s sh ro I J A Ir Jr) (hc' : gh_HC shₚ ro' Aₚ Iₚ) (k : gh_MO (I 1 17 + I 23 1) sh ro I A z shₚ ro' Iₚ Jₚ Aₚ) (hk : a1 + 25 * gh_nl Aₚ ≤ 25 * gh_nl A + 9 * (Int.toNat (I 23 1) + 1) ∧ s1 + 45714 * gh_nl Aₚ ≤ 45714 * gh_nl A + 82 * (Int.toNat (I 23 1) + 1) ∧ shₚ.length + 25 * gh_nl Aₚ ≤ sh.length + 25 * gh_nl A + 9 * (Int.toNat (I 23 1) + 1)) (r : gs_R Iₚ Jₚ Aₚ Irₚ Jrₚ ∧ gs_RV Iₚ Aₚ Irₚ) (q : gq_St (n + 1) Irₚ) (w : gr_KW Jrₚ) (kq : gr_KQ Irₚ) (nt : gs_NT Iₚ Aₚ Irₚ) (e : Irₚ 0 68 = 0) : gp_P (n + 1) (a + a1) (s + s1) shₚ ro' Iₚ Jₚ Aₚ Irₚ Jrₚ := by
  have e0 : Iₚ 23 1 = 0 := k.2.2.2.1
  exact ⟨gk_mo h.1 hc' k hk, ⟨q, w, kq, nt⟩, r.1, e0.trans e.symm, fun j hj => absurd hj (by omega), r.2⟩
end UC
/-- the bytes of THE TAPE as a text -/
def gp_tx (N : Int) (r : Nat → Int) (k : Int) : Int := if 0 ≤ k ∧ k < N then r (Int.toNat k) else 0
theorem gp_TX (N : Int) (r : Nat → Int) : gs_TX (gp_tx N r) N r := fun k => ⟨fun h1 h2 => if_pos ⟨h1, h2⟩, fun h => if_neg h⟩
theorem gp_TX2 {N : Int} {r r' : Nat → Int} (h : ∀ k : Nat, (k : Int) < N → r' k = r k) : gs_TX (gp_tx N r) N r' := fun k => ⟨fun h1 h2 => (if_pos ⟨h1, h2⟩).trans (h (Int.toNat k) (by omega)).symm, fun h => if_neg h⟩
