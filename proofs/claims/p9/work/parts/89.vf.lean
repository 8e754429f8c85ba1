/-! WHAT STAYS when cells are made and rows of lins are written. -/
def gc_x4 (x : Bool × Nat × Nat) : Bool := x.1 && (Nat.beq x.2.1 4 || Nat.beq x.2.1 5 || (Nat.beq x.2.1 6 && Nat.beq x.2.2 100))
def gc_ext (sh : gz_Sh) (ro : Nat → Nat) (A : gc_A) (shₚ : gz_Sh) (ro' : Nat → Nat) (Aₚ : gc_A) : Prop := (∃ e, shₚ = sh ++ e) ∧ (∀ q, q < sh.length → ro' q = ro q) ∧ ∀ q k x, sh[q]? = some x → gc_x4 x = false → Aₚ q k = A q k
theorem gc_x_lt {sh : gz_Sh} {p : Nat} {x : Bool × Nat × Nat} (h : sh[p]? = some x) : p < sh.length := (List.getElem?_eq_some_iff.mp h).1
theorem gc_x_sh {sh shₚ : gz_Sh} {ro ro' : Nat → Nat} {A Aₚ : gc_A} (h : gc_ext sh ro A shₚ ro' Aₚ) {p : Nat} {x : Bool × Nat × Nat} (hs : sh[p]? = some x) : shₚ[p]? = some x := by
  obtain ⟨⟨e, rfl⟩, -⟩ := h
  rw [List.getElem?_append_left (gc_x_lt hs)]
  exact hs
theorem gc_x_ro {sh shₚ : gz_Sh} {ro ro' : Nat → Nat} {A Aₚ : gc_A} (h : gc_ext sh ro A shₚ ro' Aₚ) {p r : Nat} {x : Bool × Nat × Nat} (hs : sh[p]? = some x) (hr : ro p = r) : ro' p = r := (h.2.1 p (gc_x_lt hs)).trans hr
theorem gc_x_A {sh shₚ : gz_Sh} {ro ro' : Nat → Nat} {A Aₚ : gc_A} (h : gc_ext sh ro A shₚ ro' Aₚ) {p k : Nat} {z : Option Nat} {x : Bool × Nat × Nat} (hs : sh[p]? = some x) (hx : gc_x4 x = false) (hA : A p k = z) : Aₚ p k = z := (h.2.2 p k x hs hx).trans hA
theorem gc_x_refl {sh : gz_Sh} {ro : Nat → Nat} {A : gc_A} : gc_ext sh ro A sh ro A := ⟨⟨[], (List.append_nil sh).symm⟩, fun _ _ => rfl, fun _ _ _ _ _ => rfl⟩
theorem gc_x_trans {sh shₚ sh2 : gz_Sh} {ro ro' ro2 : Nat → Nat} {A Aₚ A2 : gc_A} (h : gc_ext sh ro A shₚ ro' Aₚ) (g : gc_ext shₚ ro' Aₚ sh2 ro2 A2) : gc_ext sh ro A sh2 ro2 A2 := by
  refine ⟨?_, fun q hq => ?_, fun q k x hs hx => ?_⟩
  · obtain ⟨e, he⟩ := h.1
    obtain ⟨e2, he2⟩ := g.1
    exact ⟨e ++ e2, by rw [he2, he, List.append_assoc]⟩
  · obtain ⟨e, he⟩ := h.1
    rw [g.2.1 q (by rw [he, List.length_append]; omega), h.2.1 q hq]
  · rw [g.2.2 q k x (gc_x_sh h hs) hx, h.2.2 q k x hs hx]
theorem gc_rf_all {l : List (Nat × Nat × Nat)} {P : Nat → Bool} (h : l.all (fun x => P x.1) = true) {p k q : Nat} (hq : gc_rf l p k = some q) : P p = true := by
  induction l with
  | nil => cases hq
  | cons x l ih =>
    rw [List.all_cons, Bool.and_eq_true] at h
    unfold gc_rf at hq
    cases hb : (Nat.beq x.1 p && Nat.beq x.2.1 k) with
    | true =>
      rw [Bool.and_eq_true] at hb
      rw [← Nat.eq_of_beq_eq_true hb.1]
      exact h.1
    | false =>
      rw [hb] at hq
      exact ih h.2 hq
theorem gc_bs_len : gc_bs.length = 144 := by decide +kernel
def gc_bP (p : Nat) : Bool := match gc_bs[p]? with
  | some x => !gc_x4 x
  | none => false
theorem gc_bs_4 : ∀ p k q, gc_rf gc_rfl p k = some q → ∃ x, gc_bs[p]? = some x ∧ gc_x4 x = false := fun p k q h => by
  have h7 := gc_rf_all (l := gc_rfl) (P := gc_bP) (by decide +kernel) h
  unfold gc_bP at h7
  revert h7
  cases gc_bs[p]? with
  | none => intro h7; cases h7
  | some x =>
    intro h7
    have h8 : (!gc_x4 x) = true := h7
    refine ⟨x, rfl, ?_⟩
    cases h6 : gc_x4 x with
    | true => rw [h6] at h8; cases h8
    | false => rfl
theorem gc_Base_len {sh : gz_Sh} {ro : Nat → Nat} {A : gc_A} (h : gc_Base sh ro A) : 144 ≤ sh.length := by
  obtain ⟨⟨e, rfl⟩, -⟩ := h
  rw [List.length_append, gc_bs_len]
  omega
theorem gc_Base_x {sh shₚ : gz_Sh} {ro ro' : Nat → Nat} {A Aₚ : gc_A} (h : gc_ext sh ro A shₚ ro' Aₚ) (g : gc_Base sh ro A) : gc_Base shₚ ro' Aₚ := by
  refine ⟨?_, fun p hp => ?_, fun p k q hq => ?_⟩
  · obtain ⟨e, he⟩ := h.1
    obtain ⟨e2, he2⟩ := g.1
    exact ⟨e2 ++ e, by rw [he, he2, List.append_assoc]⟩
  · rw [h.2.1 p (by have := gc_Base_len g; omega)]
    exact g.2.1 p hp
  · obtain ⟨x, h1, h2⟩ := gc_bs_4 p k q hq
    exact gc_x_A h (gc_bS g h1) h2 (g.2.2 p k q hq)
theorem gc_isNames_x {sh shₚ : gz_Sh} {ro ro' : Nat → Nat} {A Aₚ : gc_A} (h : gc_ext sh ro A shₚ ro' Aₚ) {p n ρ : Nat} (g : gc_isNames sh ro A p n ρ) : gc_isNames shₚ ro' Aₚ p n ρ := by
  obtain ⟨a0, a1, a2, a3, a4, a5, a6, a7, a8, a9⟩ := g
  exact ⟨gc_x_sh h a0, gc_x_ro h a0 a1, a2, gc_x_A h a0 rfl a3, gc_x_sh h a4, gc_x_ro h a4 a5, a6, a7, a8, a9⟩
theorem gc_isForms_x {sh shₚ : gz_Sh} {ro ro' : Nat → Nat} {A Aₚ : gc_A} (h : gc_ext sh ro A shₚ ro' Aₚ) {p : Nat} (g : gc_isForms sh ro A p) : gc_isForms shₚ ro' Aₚ p := by
  obtain ⟨a0, a1, a2, a3, a4, a5, a6, a7, a8, a9, a10, a11, a12, a13, a14, a15, a16, a17, a18, a19, a20, a21, a22, a23, a24, a25, a26, a27, a28, a29, a30, a31, a32⟩ := g
  exact ⟨gc_x_sh h a0, gc_x_ro h a0 a1, a2, gc_x_A h a0 rfl a3, gc_x_sh h a4, gc_x_ro h a4 a5, a6, gc_x_A h a0 rfl a7, gc_x_sh h a8, gc_x_ro h a8 a9, a10, gc_x_A h a0 rfl a11, gc_x_sh h a12, gc_x_ro h a12 a13, a14, gc_x_A h a0 rfl a15, gc_x_sh h a16, gc_x_ro h a16 a17, a18, gc_x_A h a0 rfl a19, gc_x_sh h a20, gc_x_ro h a20 a21, a22, gc_x_A h a0 rfl a23, gc_x_sh h a24, gc_x_ro h a24 a25, a26, gc_x_sh h a27, gc_x_ro h a27 a28, a29, gc_x_sh h a30, gc_x_ro h a30 a31, a32⟩
theorem gc_isLin_x {sh shₚ : gz_Sh} {ro ro' : Nat → Nat} {A Aₚ : gc_A} (h : gc_ext sh ro A shₚ ro' Aₚ) {p : Nat} (g : gc_isLin sh ro A p) : gc_isLin shₚ ro' Aₚ p := by
  obtain ⟨a0, a1, a2, a3, a4, a5, a6, a7, a8, a9, a10, a11, a12, a13, a14, a15, a16, a17, a18, a19, a20, a21, a22, a23, a24, a25, a26, a27, a28, a29, a30, a31, a32, a33, a34⟩ := g
  exact ⟨gc_x_sh h a0, gc_x_ro h a0 a1, a2, gc_x_A h a0 rfl a3, gc_x_sh h a4, gc_x_ro h a4 a5, a6, gc_x_A h a0 rfl a7, gc_x_sh h a8, gc_x_ro h a8 a9, a10, gc_x_A h a0 rfl a11, gc_x_sh h a12, gc_x_ro h a12 a13, a14, gc_x_A h a0 rfl a15, gc_x_sh h a16, gc_x_ro h a16 a17, a18, gc_x_A h a0 rfl a19, gc_x_sh h a20, gc_x_ro h a20 a21, a22, gc_x_A h a0 rfl a23, gc_x_sh h a24, gc_x_ro h a24 a25, a26, gc_x_A h a0 rfl a27, gc_x_sh h a28, gc_x_ro h a28 a29, a30, gc_x_A h a0 rfl a31, gc_x_sh h a32, gc_x_ro h a32 a33, a34⟩
theorem gc_isTongue_x {sh shₚ : gz_Sh} {ro ro' : Nat → Nat} {A Aₚ : gc_A} (h : gc_ext sh ro A shₚ ro' Aₚ) {p : Nat} (g : gc_isTongue sh ro A p) : gc_isTongue shₚ ro' Aₚ p := by
  obtain ⟨a0, a1, a2, a3, a4, a5, a6, a7, a8, a9, a10, a11, a12, a13, a14, a15, a16, a17, a18, a19, a20, a21, a22, a23, a24, a25, a26, a27, a28, a29, a30, a31, a32, a33, a34, a35, a36, a37, a38, a39, a40, a41, a42, a43, a44⟩ := g
  exact ⟨gc_x_sh h a0, gc_x_ro h a0 a1, a2, gc_x_A h a0 rfl a3, gc_isNames_x h a4, gc_x_A h a0 rfl a5, gc_isNames_x h a6, gc_x_A h a0 rfl a7, gc_x_sh h a8, gc_x_ro h a8 a9, a10, gc_x_A h a0 rfl a11, gc_x_sh h a12, gc_x_ro h a12 a13, a14, gc_x_A h a0 rfl a15, gc_isNames_x h a16, gc_x_A h a0 rfl a17, gc_x_sh h a18, gc_x_ro h a18 a19, a20, gc_x_A h a0 rfl a21, gc_x_sh h a22, gc_x_ro h a22 a23, a24, gc_x_A h a0 rfl a25, gc_isNames_x h a26, gc_x_A h a0 rfl a27, gc_x_sh h a28, gc_x_ro h a28 a29, a30, gc_x_A h a0 rfl a31, gc_x_sh h a32, gc_x_ro h a32 a33, a34, gc_x_A h a0 rfl a35, gc_x_sh h a36, gc_x_ro h a36 a37, a38, gc_x_A h a0 rfl a39, gc_x_sh h a40, gc_x_ro h a40 a41, a42, gc_x_A h a0 rfl a43, gc_isForms_x h a44⟩
theorem gc_Ls_x {sh shₚ : gz_Sh} {ro ro' : Nat → Nat} {A Aₚ : gc_A} {I : gr_I} {p : Nat} (h : gc_ext sh ro A shₚ ro' Aₚ) (g : gc_Ls sh ro A p I) (e : ∀ i : Nat, (i : Int) < I p 13 → Aₚ (p + 16) i = A (p + 16) i) : gc_Ls shₚ ro' Aₚ p I := fun i hi => by
  obtain ⟨q, a, b, c, d⟩ := g i hi
  exact ⟨q, (e i hi).trans a, gc_isLin_x h b, c, d⟩
