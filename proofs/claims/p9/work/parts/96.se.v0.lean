/-! FORMS (p9 to p13): a CELL's bytes with the stems of a WORD. A chunk is (how many, which letters). -/
/-- one chunk behind what is joined so far; none: it lacks, or it is too long -/
def fo_ap (r c : fo_c) : fo_c := match r, c with
  | some x, some y => if 24 < x.1 + y.1 then none else some (x.1 + y.1, so_app x.2 x.1 y.1 y.2)
  | _, _ => none
/-- a byte of the class's CELL: a stem's number or a letter -/
def fo_ch (S : Int → fo_c) (b : Int) : fo_c := if b ≤ 3 then S b else some (1, fun _ => b)
def fo_jn (S : Int → fo_c) (g : Int → Int) : Nat → fo_c
  | 0 => some (0, fun _ => 0)
  | i + 1 => fo_ap (fo_jn S g i) (fo_ch S (g (i : Int)))
/-- a part of the reference's CELL: below 0 a stem, else LETTERS -/
def fo_pc (S : Int → fo_c) (Λ : Nat → Int) (p : Int) : fo_c := if p < 0 then S (-p) else some (so_n p, so_cut (so_n p) (fun i => Λ (Int.toNat (so_o p + i))))
def fo_jr (S : Int → fo_c) (Λ : Nat → Int) (f : Nat → Int) : Nat → fo_c
  | 0 => some (0, fun _ => 0)
  | k + 1 => fo_ap (fo_jr S Λ f k) (fo_pc S Λ (f k))
/-- a part is good: a stem's number, or LETTERS that are letters -/
def fo_ok (Λ : Nat → Int) (p : Int) : Prop := (-3 ≤ p ∧ p < 0) ∨ (0 ≤ p ∧ 0 ≤ so_n p ∧ ∀ i : Int, 0 ≤ i → i < so_n p → 3 < Λ (Int.toNat (so_o p + i)))
theorem fo_nn {x : Int × (Int → Int)} (h : (none : fo_c) = some x) : False := by cases h
theorem fo_ns {x : Int × (Int → Int)} (h : (some x : fo_c) = none) : False := by cases h
section FO
variable {S : Int → fo_c} {Λ : Nat → Int} {f : Nat → Int} {g gₚ h : Int → Int} {r : fo_c} {n m : Int} {i k : Nat}
theorem fo_app_1 (hn : 0 ≤ n) : so_app (so_app g m n h) (m + n) 1 (fun _ => h n) = so_app g m (n + 1) h := funext fun i => by
  unfold so_app
  by_cases c : i = m + n
  · subst c
    rw [if_pos (show m + n ≤ m + n ∧ m + n < m + n + 1 by omega), if_pos (show m ≤ m + n ∧ m + n < m + (n + 1) by omega), show m + n - m = n from by omega]
  · rw [if_neg (show ¬ (m + n ≤ i ∧ i < m + n + 1) by omega)]
    by_cases d : m ≤ i ∧ i < m + n
    · rw [if_pos d, if_pos (show m ≤ i ∧ i < m + (n + 1) by omega)]
    · rw [if_neg d, if_neg (show ¬ (m ≤ i ∧ i < m + (n + 1)) by omega)]
theorem fo_ap_1 (hn : 0 ≤ n) : fo_ap (fo_ap r (some (n, h))) (some (1, fun _ => h n)) = fo_ap r (some (n + 1, h)) := by
  cases r with
  | none => rfl
  | some x =>
    show fo_ap (if 24 < x.1 + n then none else some (x.1 + n, so_app x.2 x.1 n h)) _ = (if 24 < x.1 + (n + 1) then none else some (x.1 + (n + 1), so_app x.2 x.1 (n + 1) h))
    by_cases c : 24 < x.1 + n
    · rw [if_pos c, if_pos (show 24 < x.1 + (n + 1) by omega)]
      rfl
    · rw [if_neg c]
      show (if 24 < x.1 + n + 1 then none else some (x.1 + n + 1, so_app (so_app x.2 x.1 n h) (x.1 + n) 1 (fun _ => h n))) = _
      by_cases d : 24 < x.1 + n + 1
      · rw [if_pos d, if_pos (show 24 < x.1 + (n + 1) by omega)]
      · rw [if_neg d, if_neg (show ¬ 24 < x.1 + (n + 1) by omega), fo_app_1 hn, show x.1 + n + 1 = x.1 + (n + 1) from by omega]
theorem fo_jn_le : ∀ {i : Nat} {x : Int × (Int → Int)}, fo_jn S g i = some x → x.1 ≤ 24
  | 0, x, e => by
    have e2 : ((0 : Int), fun _ => (0 : Int)) = x := Option.some.inj e
    rw [← e2]
    show (0 : Int) ≤ 24
    decide
  | i + 1, x, e => by
    unfold fo_jn at e
    cases a : fo_jn S g i with
    | none =>
      rw [a] at e
      cases e
    | some y =>
      rw [a] at e
      cases c : fo_ch S (g (i : Int)) with
      | none =>
        rw [c] at e
        cases e
      | some z =>
        rw [c] at e
        have e1 : (if 24 < y.1 + z.1 then none else some (y.1 + z.1, so_app y.2 y.1 z.1 z.2)) = some x := e
        by_cases d : 24 < y.1 + z.1
        · rw [if_pos d] at e1
          cases e1
        · rw [if_neg d] at e1
          have e2 := Option.some.inj e1
          rw [← e2]
          show y.1 + z.1 ≤ 24
          omega
set_option maxHeartbeats 8000000 in
/-- n letters one by one are one chunk -/
theorem fo_jn_l : ∀ {d : Nat}, (∀ k : Int, 0 ≤ k → k < (d : Int) → g ((i : Int) + k) = h k ∧ 3 < h k) → fo_jn S g (i + d) = fo_ap (fo_jn S g i) (some ((d : Int), h))
  | 0, _ => by
    show fo_jn S g i = _
    cases a : fo_jn S g i with
    | none => rfl
    | some x =>
      have l := fo_jn_le a
      show some x = (if 24 < x.1 + ((0 : Nat) : Int) then none else some (x.1 + ((0 : Nat) : Int), so_app x.2 x.1 ((0 : Nat) : Int) h))
      rw [if_neg (show ¬ 24 < x.1 + ((0 : Nat) : Int) by exact gz_m 0 (by omega)), show x.1 + ((0 : Nat) : Int) = x.1 from by exact gz_m 1 (by omega), show ((0 : Nat) : Int) = 0 from rfl, so_app_0]
  | d + 1, e => by
    show fo_ap (fo_jn S g (i + d)) (fo_ch S (g ((i + d : Nat) : Int))) = _
    obtain ⟨e1, e2⟩ := e (d : Int) (by exact gz_m 2 (by omega)) (by exact gz_m 3 (by omega))
    rw [fo_jn_l (d := d) (fun k h0 h1 => e k h0 (by exact gz_m 4 (by omega))), show ((i + d : Nat) : Int) = (i : Int) + (d : Int) from by exact gz_m 5 (by omega), e1, show fo_ch S (h (d : Int)) = some (1, fun _ => h (d : Int)) from if_neg (by exact gz_m 6 (by omega)), fo_ap_1 (by exact gz_m 7 (by omega)), show ((d + 1 : Nat) : Int) = (d : Int) + 1 from by exact gz_m 8 (by omega)]
theorem fo_ex_0 (ok : ∀ j, j < k → fo_ok Λ (f j)) : 0 ≤ (fo_ex Λ f k).1 := by
  induction k with
  | zero => exact Int.le_refl 0
  | succ k ih =>
    have a := ih (fun j hj => ok j (by omega))
    show 0 ≤ (fo_ex Λ f k).1 + (fo_pb Λ (f k)).1
    unfold fo_pb
    rcases ok k (by omega) with o | o
    · rw [if_pos o.2]
      show 0 ≤ (fo_ex Λ f k).1 + 1
      omega
    · rw [if_neg (show ¬ f k < 0 by omega)]
      show 0 ≤ (fo_ex Λ f k).1 + so_n (f k)
      omega
/-- the class's bytes and the reference's parts give the same word -/
theorem fo_jn_ex (ok : ∀ j, j < k → fo_ok Λ (f j)) (e : ∀ i : Int, 0 ≤ i → i < (fo_ex Λ f k).1 → g i = (fo_ex Λ f k).2 i) : fo_jn S g (Int.toNat (fo_ex Λ f k).1) = fo_jr S Λ f k := by
  induction k with
  | zero => rfl
  | succ k ih =>
    have a0 := fo_ex_0 (fun j (hj : j < k) => ok j (by omega))
    have ek : (fo_ex Λ f (k + 1)).1 = (fo_ex Λ f k).1 + (fo_pb Λ (f k)).1 := rfl
    have ef : (fo_ex Λ f (k + 1)).2 = so_app (fo_ex Λ f k).2 (fo_ex Λ f k).1 (fo_pb Λ (f k)).1 (fo_pb Λ (f k)).2 := rfl
    have p0 : 0 ≤ (fo_pb Λ (f k)).1 := by
      unfold fo_pb
      rcases ok k (by omega) with o | o
      · rw [if_pos o.2]
        show (0 : Int) ≤ 1
        decide
      · rw [if_neg (show ¬ f k < 0 by omega)]
        exact o.2.1
    have e1 : fo_jn S g (Int.toNat (fo_ex Λ f k).1) = fo_jr S Λ f k := ih (fun j hj => ok j (by omega)) (fun i h0 h1 => by
      rw [e i h0 (by omega), ef]
      unfold so_app
      rw [if_neg (show ¬ ((fo_ex Λ f k).1 ≤ i ∧ i < (fo_ex Λ f k).1 + (fo_pb Λ (f k)).1) by omega)])
    have e2 : ∀ j : Int, 0 ≤ j → j < (fo_pb Λ (f k)).1 → g ((fo_ex Λ f k).1 + j) = (fo_pb Λ (f k)).2 j := fun j h0 h1 => by
      rw [e _ (by omega) (by omega), ef]
      unfold so_app
      rw [if_pos (show (fo_ex Λ f k).1 ≤ (fo_ex Λ f k).1 + j ∧ (fo_ex Λ f k).1 + j < (fo_ex Λ f k).1 + (fo_pb Λ (f k)).1 by omega), show (fo_ex Λ f k).1 + j - (fo_ex Λ f k).1 = j from by omega]
    have ci : ((Int.toNat (fo_ex Λ f k).1 : Nat) : Int) = (fo_ex Λ f k).1 := by omega
    show _ = fo_ap (fo_jr S Λ f k) (fo_pc S Λ (f k))
    rw [← e1, ek]
    rcases ok k (by omega) with o | o
    · have pb : fo_pb Λ (f k) = (1, fun _ => -(f k)) := if_pos o.2
      rw [pb] at e2
      have e3 := e2 0 (by decide) (show (0 : Int) < 1 by decide)
      rw [pb, show Int.toNat ((fo_ex Λ f k).1 + (1, fun _ : Int => -(f k)).1) = Int.toNat (fo_ex Λ f k).1 + 1 from (by show Int.toNat ((fo_ex Λ f k).1 + 1) = _; omega)]
      show fo_ap (fo_jn S g (Int.toNat (fo_ex Λ f k).1)) (fo_ch S (g ((Int.toNat (fo_ex Λ f k).1 : Nat) : Int))) = _
      rw [ci, show g (fo_ex Λ f k).1 = -(f k) from (by rw [← show (fo_ex Λ f k).1 + 0 = (fo_ex Λ f k).1 from by omega]; exact e3), show fo_ch S (-(f k)) = S (-(f k)) from if_pos (by omega), show fo_pc S Λ (f k) = S (-(f k)) from if_pos o.2]
    · have pb : fo_pb Λ (f k) = (so_n (f k), so_cut (so_n (f k)) (fun i => Λ (Int.toNat (so_o (f k) + i)))) := if_neg (by omega)
      rw [pb] at e2
      rw [pb, show fo_pc S Λ (f k) = some (so_n (f k), so_cut (so_n (f k)) (fun i => Λ (Int.toNat (so_o (f k) + i)))) from if_neg (by omega)]
      rw [show Int.toNat ((fo_ex Λ f k).1 + (so_n (f k), so_cut (so_n (f k)) (fun i => Λ (Int.toNat (so_o (f k) + i)))).1) = Int.toNat (fo_ex Λ f k).1 + Int.toNat (so_n (f k)) from (by show Int.toNat ((fo_ex Λ f k).1 + so_n (f k)) = _; omega)]
      have cn : ((Int.toNat (so_n (f k)) : Nat) : Int) = so_n (f k) := by omega
      have l := fo_jn_l (S := S) (g := g) (h := so_cut (so_n (f k)) (fun i => Λ (Int.toNat (so_o (f k) + i)))) (i := Int.toNat (fo_ex Λ f k).1) (d := Int.toNat (so_n (f k))) (fun j h0 h1 => ⟨by rw [ci]; exact e2 j h0 (by omega), by rw [so_cut_i h0 (by omega)]; exact o.2.2 j h0 (by omega)⟩)
      rw [l, cn]
end FO
/-! the FORM of a WORD in a CELL, the reference's side (p9 to p13) -/
def fo_out (U : Nat → so_ru) (c : Nat) (w : fo_c) (g : Nat → Int) (z : Int) : Prop := match w with
  | none => z = -1
  | some x => ∃ n' : Int, so_out U c x.2 x.1 g n' z
def fo_Sr (I : gr_I) (t w b : Int) : fo_c := fo_sr (I 51) (I 38 (Int.toNat (3 * (64 * t + w) - 1 + b)))
def fo_Xc (I : gr_I) (t w c : Int) : Nat := Int.toNat (24 * (24 * t + I 37 (Int.toNat (64 * t + w))) + c)
def fo_wr (I : gr_I) (t w c : Int) : fo_c := if I 34 (fo_Xc I t w c) < 0 then none else fo_jr (fo_Sr I t w) (I 51) (fun j => I 35 (Int.toNat (I 33 (fo_Xc I t w c) + (j : Int)))) (Int.toNat (I 34 (fo_Xc I t w c)))
/-- it can be made -/
def gs_JO (I : gr_I) (t w c : Int) : Prop := fo_okr (I 0 59) (I 0 42) (I 51) (I 35) (I 33 (fo_Xc I t w c)) (I 34 (fo_Xc I t w c)) ∧ ∀ k : Nat, k < 3 → fo_okx (I 0 59) (gs_xw I t w k)
section FM9
variable {S : Int → fo_c} {Λ : Nat → Int} {f g gₚ : Nat → Int} {n m x z v : Int} {I Iₚ : gr_I} {t w c : Int} {U : Nat → so_ru}
theorem fo_jr_none {j : Nat} : ∀ {k : Nat}, fo_jr S Λ f j = none → j ≤ k → fo_jr S Λ f k = none
  | 0, h, hk => by
    rw [show j = 0 from by omega] at h
    exact h
  | k + 1, h, hk => by
    by_cases e : j = k + 1
    · rw [← e]
      exact h
    · show fo_ap (fo_jr S Λ f k) _ = none
      rw [fo_jr_none h (by omega)]
      rfl
theorem fo_jr_s {k : Nat} {y : Int × (Int → Int)} {g9 : Int → Int} (h : fo_jr S Λ f k = some (n, g9)) (e : fo_pc S Λ (f k) = some y) (l : n + y.1 ≤ 24) : fo_jr S Λ f (k + 1) = some (n + y.1, so_app g9 n y.1 y.2) := by
  show fo_ap (fo_jr S Λ f k) (fo_pc S Λ (f k)) = _
  rw [h, e]
  exact if_neg (by omega)
theorem fo_jr_x {k d : Nat} {g9 : Int → Int} (h : fo_jr S Λ f k = some (n, g9)) (e : fo_pc S Λ (f k) = none ∨ ∃ y, fo_pc S Λ (f k) = some y ∧ 24 < n + y.1) (hd : k < d) : fo_jr S Λ f d = none := by
  refine fo_jr_none (j := k + 1) ?_ hd
  show fo_ap (fo_jr S Λ f k) (fo_pc S Λ (f k)) = none
  rcases e with e | ⟨y, e, l⟩
  · rw [h, e]
    rfl
  · rw [h, e]
    exact if_pos l
theorem fo_pc_p (h : 0 ≤ x) : fo_pc S Λ x = fo_sr Λ x := by
  unfold fo_pc fo_sr
  rw [if_neg (show ¬ x < 0 by omega), if_neg (show ¬ x < 0 by omega)]
theorem fo_pc_n (h : x < 0) (e : S (-x) = fo_sr Λ v) : fo_pc S Λ x = fo_sr Λ v := by
  unfold fo_pc
  rw [if_pos h]
  exact e
theorem fo_sr_p (h : 0 ≤ x) : fo_sr Λ x = some (so_n x, so_cut (so_n x) (fun i => Λ (Int.toNat (so_o x + i)))) := if_neg (show ¬ x < 0 by omega)
theorem fo_sr_n (h : x < 0) : fo_sr Λ x = none := if_pos h
theorem fo_wr_n (h : I 34 (fo_Xc I t w c) < 0) : fo_wr I t w c = none := if_pos h
theorem fo_wr_p (h : ¬ I 34 (fo_Xc I t w c) < 0) : fo_wr I t w c = fo_jr (fo_Sr I t w) (I 51) (fun j => I 35 (Int.toNat (I 33 (fo_Xc I t w c) + (j : Int)))) (Int.toNat (I 34 (fo_Xc I t w c))) := if_neg h
theorem fo_out_n {d : Nat} {y : fo_c} (h : y = none) (hz : z = -1) : fo_out U d y g z := by
  rw [h]
  exact hz
theorem fo_out_s {d : Nat} {y : fo_c} {n' : Int} {g9 : Int → Int} (h : y = some (n, g9)) (o : so_out U d g9 n g n' z) : fo_out U d y g z := by
  rw [h]
  exact ⟨n', o⟩
theorem fo_out_u {U' : Nat → so_ru} {d : Nat} {y : fo_c} {z' : Int} (eU : ∀ k, k < d → U k = U' k) (hn : ∀ x, y = some x → 0 ≤ x.1) (h : fo_out U d y g z) (hₚ : fo_out U' d y gₚ z') : z = z' ∧ (1 ≤ z → so_b z g = so_b z' gₚ) := by
  cases e : y with
  | none =>
    rw [e] at h hₚ
    have h1 : z = -1 := h
    have h2 : z' = -1 := hₚ
    exact ⟨by omega, fun h0 => absurd h0 (by omega)⟩
  | some x =>
    have h0 := hn x e
    rw [e] at h hₚ
    obtain ⟨n1, a⟩ := h
    obtain ⟨n2, b⟩ := hₚ
    obtain ⟨fin, z9, b1, b2⟩ := b
    exact so_out_u h0 a ⟨fin, z9, so_all_U (fun k hk => (eU k hk).symm) b1, b2⟩
theorem fo_okx_b {p : Int} (h : fo_okb n Λ p) : fo_okx n p := h.elim (fun c => Or.inl c.2) (fun c => Or.inr ⟨c.1, c.2.1⟩)
theorem fo_okx_s {p : Int} (h : gs_JO I t w c) (ok : fo_okb n Λ p) (hp : p < 0) : fo_okx (I 0 59) (I 38 (Int.toNat (3 * (64 * t + w) - 1 - p))) := by
  have o := ok.resolve_right (fun q => by have := q.1; omega)
  have x := h.2 (Int.toNat (-1 - p)) (by omega)
  unfold gs_xw at x
  rw [show 3 * (64 * t + w) + ((Int.toNat (-1 - p) : Nat) : Int) = 3 * (64 * t + w) - 1 - p from by omega] at x
  exact x
end FM9
/-! chains of FORMS by their hash, and lists of FORMS (p9 to p13) -/
def fo_h (f : Nat → Int) : Nat → Int
  | 0 => 0
  | k + 1 => fo_h f k * 31 + f k
def fo_hz (h : Int) : Int := (Int32.ofInt (((Int32.ofInt h ^^^ Int32.ofInt (((Int32.ofInt h >>> (Int32.ofInt 9 &&& 31)).toInt))).toInt)) &&& Int32.ofInt 511).toInt
theorem fo_h_cg {f g : Nat → Int} : ∀ {n : Nat}, (∀ j, j < n → f j = g j) → fo_h f n = fo_h g n
  | 0, _ => rfl
  | n + 1, h => by
    show fo_h f n * 31 + f n = fo_h g n * 31 + g n
    rw [fo_h_cg (fun j hj => h j (by omega)), h n (by omega)]
theorem fo_h_s {f : Nat → Int} {h v a : Int} (e : h = fo_h f (Int.toNat (v - a))) (hv : a ≤ v) : h * 31 + f (Int.toNat (v - a)) = fo_h f (Int.toNat (v + 1 - a)) := by
  rw [show Int.toNat (v + 1 - a) = Int.toNat (v - a) + 1 from by omega, e]
  rfl
/-- x is the first from lo on, or there is none -/
def fo_nx (P : Int → Prop) (lo x : Int) : Prop := (x = -1 ∧ ∀ j, lo ≤ j → ¬ P j) ∨ (lo ≤ x ∧ P x ∧ ∀ j, lo ≤ j → j < x → ¬ P j)
theorem fo_nx_dn {P : Int → Prop} {lo lo' x : Int} (h : fo_nx P lo x) (l : lo' ≤ lo) (n : ∀ j, lo' ≤ j → j < lo → ¬ P j) : fo_nx P lo' x := by
  rcases h with ⟨h1, h2⟩ | ⟨h1, h2, h3⟩
  · exact Or.inl ⟨h1, fun j hj => if e : j < lo then n j hj e else h2 j (by omega)⟩
  · exact Or.inr ⟨by omega, h2, fun j hj hx => if e : j < lo then n j hj e else h3 j (by omega) hx⟩
theorem fo_nx_cg {P Q : Int → Prop} {lo x : Int} (h : fo_nx P lo x) (c : ∀ j, lo ≤ j → (P j ↔ Q j)) : fo_nx Q lo x := by
  rcases h with ⟨h1, h2⟩ | ⟨h1, h2, h3⟩
  · exact Or.inl ⟨h1, fun j hj q => h2 j hj ((c j hj).mpr q)⟩
  · exact Or.inr ⟨h1, (c x h1).mp h2, fun j hj hx q => h3 j hj hx ((c j hj).mpr q)⟩
def fo_hx (tx sz : Nat → Int) (x : Int) : Int := fo_hz (fo_h (fun j => tx (Int.toNat (24 * x) + j)) (Int.toNat (sz (Int.toNat x))))
def fo_S (B : Int → Prop) (tx sz : Nat → Int) (h x : Int) : Prop := B x ∧ 1 ≤ sz (Int.toNat x) ∧ fo_hx tx sz x = h
def fo_CH (B : Int → Prop) (tx sz ch hd : Nat → Int) (lo : Int) : Prop := (∀ h : Nat, h < 512 → fo_nx (fo_S B tx sz (h : Int)) lo (hd h)) ∧ ∀ x, lo ≤ x → B x → 1 ≤ sz (Int.toNat x) → fo_nx (fo_S B tx sz (fo_hx tx sz x)) (x + 1) (ch (Int.toNat x))
section CH9
variable {B : Int → Prop} {tx tx' sz sz' ch ch' hd hd' : Nat → Int} {lo lo' x : Int}
theorem fo_CH_0 (h : ∀ k : Nat, k < 512 → hd k = -1) (n : ∀ x, lo ≤ x → ¬ B x) : fo_CH B tx sz ch hd lo := ⟨fun k hk => Or.inl ⟨h k hk, fun j hj s => n j hj s.1⟩, fun x hx b => absurd b (n x hx)⟩
theorem fo_CH_dn (h : fo_CH B tx sz ch hd lo) (l : lo' ≤ lo) (n : ∀ x, lo' ≤ x → x < lo → B x → ¬ 1 ≤ sz (Int.toNat x)) : fo_CH B tx sz ch hd lo' := ⟨fun k hk => fo_nx_dn (h.1 k hk) l (fun j h1 h2 s => n j h1 h2 s.1 s.2.1), fun x h1 b z => h.2 x (Int.not_lt.mp (fun e => n x h1 e b z)) b z⟩
theorem fo_hx_cg (e : sz' (Int.toNat x) = sz (Int.toNat x)) (t : ∀ j : Nat, j < Int.toNat (sz (Int.toNat x)) → tx' (Int.toNat (24 * x) + j) = tx (Int.toNat (24 * x) + j)) : fo_hx tx' sz' x = fo_hx tx sz x := by
  unfold fo_hx
  rw [e, fo_h_cg t]
/-- what is behind lo stays -/
def fo_rs (B : Int → Prop) (tx sz ch tx' sz' ch' : Nat → Int) (lo : Int) : Prop := ∀ x, lo ≤ x → B x → sz' (Int.toNat x) = sz (Int.toNat x) ∧ ch' (Int.toNat x) = ch (Int.toNat x) ∧ ∀ j : Nat, j < Int.toNat (sz (Int.toNat x)) → tx' (Int.toNat (24 * x) + j) = tx (Int.toNat (24 * x) + j)
theorem fo_S_cg (r : fo_rs B tx sz ch tx' sz' ch' lo) (hx : lo ≤ x) {h : Int} : fo_S B tx sz h x ↔ fo_S B tx' sz' h x := by
  constructor
  · intro s
    obtain ⟨r1, _, r3⟩ := r x hx s.1
    exact ⟨s.1, by rw [r1]; exact s.2.1, by rw [fo_hx_cg r1 r3]; exact s.2.2⟩
  · intro s
    obtain ⟨r1, _, r3⟩ := r x hx s.1
    exact ⟨s.1, by rw [← r1]; exact s.2.1, by rw [← fo_hx_cg r1 r3]; exact s.2.2⟩
theorem fo_CH_cg (h : fo_CH B tx sz ch hd lo) (r : fo_rs B tx sz ch tx' sz' ch' lo) (f : ∀ k : Nat, hd' k = hd k) : fo_CH B tx' sz' ch' hd' lo := ⟨fun k hk => by rw [f k]; exact fo_nx_cg (h.1 k hk) (fun j hj => fo_S_cg r hj), fun x hx b z => by
  obtain ⟨r1, r2, r3⟩ := r x hx b
  rw [fo_hx_cg r1 r3, r2]
  rw [r1] at z
  exact fo_nx_cg (h.2 x hx b z) (fun j hj => fo_S_cg r (by omega))⟩
theorem fo_CH_no (h : fo_CH B tx sz ch hd (x + 1)) (r : fo_rs B tx sz ch tx' sz' ch' (x + 1)) (f : ∀ k : Nat, hd' k = hd k) (z : ¬ 1 ≤ sz' (Int.toNat x)) : fo_CH B tx' sz' ch' hd' x := fo_CH_dn (fo_CH_cg h r f) (by omega) (fun y h1 h2 _ => by
  rw [show y = x from by omega]
  exact z)
theorem fo_CH_in {k : Nat} (h : fo_CH B tx sz ch hd (x + 1)) (r : fo_rs B tx sz ch tx' sz' ch' (x + 1)) (b : B x) (z : 1 ≤ sz' (Int.toNat x)) (hk : (k : Int) = fo_hx tx' sz' x) (k5 : k < 512) (c : ch' (Int.toNat x) = hd k) (f1 : hd' k = x) (f : ∀ j : Nat, ¬ j = k → hd' j = hd j) : fo_CH B tx' sz' ch' hd' x := by
  have g := fo_CH_cg (hd' := hd) h r (fun _ => rfl)
  refine ⟨fun j hj => ?_, fun y hy by' zy => ?_⟩
  · by_cases e : j = k
    · rw [e, f1]
      exact Or.inr ⟨Int.le_refl _, ⟨b, z, hk.symm⟩, fun i h1 h2 => by omega⟩
    · rw [f j e]
      refine fo_nx_dn (g.1 j hj) (by omega) (fun i h1 h2 s => e ?_)
      have e1 : i = x := by omega
      have s3 := s.2.2
      rw [e1, ← hk] at s3
      omega
  · by_cases e : y = x
    · rw [e, c, ← hk]
      exact g.1 k k5
    · exact g.2 y (by omega) by' zy
end CH9
/-! how many below n, and which -/
def fo_cn (P : Nat → Prop) : Nat → Int → Prop
  | 0, z => z = 0
  | n + 1, z => (P n ∧ fo_cn P n (z - 1)) ∨ (¬ P n ∧ fo_cn P n z)
def fo_ls (P : Nat → Prop) (f : Nat → Int) (n : Nat) : Prop := ∀ (x : Nat) (z : Int), x < n → P x → fo_cn P x z → f (Int.toNat z) = (x : Int)
section CN9
variable {P Q : Nat → Prop} {f f' : Nat → Int} {n m x : Nat} {z z' : Int}
theorem fo_cn_u : ∀ {n : Nat} {z z' : Int}, fo_cn P n z → fo_cn P n z' → z = z'
  | 0, z, z', h, hₚ => by
    have h1 : z = 0 := h
    have h2 : z' = 0 := hₚ
    omega
  | n + 1, z, z', h, hₚ => by
    rcases h with ⟨h1, h2⟩ | ⟨h1, h2⟩
    · rcases hₚ with ⟨_, h4⟩ | ⟨h3, _⟩
      · have := fo_cn_u h2 h4
        omega
      · exact absurd h1 h3
    · rcases hₚ with ⟨h3, _⟩ | ⟨_, h4⟩
      · exact absurd h3 h1
      · exact fo_cn_u h2 h4
set_option maxHeartbeats 8000000 in
theorem fo_cn_ex : ∀ (n : Nat), ∃ z : Int, fo_cn P n z ∧ 0 ≤ z ∧ z ≤ n
  | 0 => ⟨0, rfl, by exact gz_m 0 (by omega), by exact gz_m 1 (by omega)⟩
  | n + 1 => by
    obtain ⟨z, h, h0, h1⟩ := fo_cn_ex n
    by_cases e : P n
    · exact ⟨z + 1, Or.inl ⟨e, by rw [show z + 1 - 1 = z from by exact gz_m 2 (by omega)]; exact h⟩, by exact gz_m 3 (by omega), by exact gz_m 4 (by omega)⟩
    · exact ⟨z, Or.inr ⟨e, h⟩, h0, by exact gz_m 5 (by omega)⟩
theorem fo_cn_b (h : fo_cn P n z) : 0 ≤ z ∧ z ≤ n := by
  obtain ⟨z', hₚ, b⟩ := fo_cn_ex (P := P) n
  rw [fo_cn_u h hₚ]
  exact b
theorem fo_cn_cg : ∀ {n : Nat} {z : Int}, (∀ j, j < n → (P j ↔ Q j)) → fo_cn P n z → fo_cn Q n z
  | 0, _, _, h => h
  | n + 1, z, c, h => by
    rcases h with ⟨h1, h2⟩ | ⟨h1, h2⟩
    · exact Or.inl ⟨(c n (by exact gz_m 0 (by omega))).mp h1, fo_cn_cg (fun j hj => c j (by exact gz_m 1 (by omega))) h2⟩
    · exact Or.inr ⟨fun q => h1 ((c n (by exact gz_m 2 (by omega))).mpr q), fo_cn_cg (fun j hj => c j (by exact gz_m 3 (by omega))) h2⟩
theorem fo_cn_sk : ∀ {m : Nat}, fo_cn P n z → n ≤ m → (∀ j, n ≤ j → j < m → ¬ P j) → fo_cn P m z
  | 0, h, l, _ => by
    rw [show n = 0 from by exact gz_m 0 (by omega)] at h
    exact h
  | m + 1, h, l, c => by
    by_cases e : n = m + 1
    · rw [← e]
      exact h
    · exact Or.inr ⟨c m (by exact gz_m 1 (by omega)) (by exact gz_m 2 (by omega)), fo_cn_sk h (by exact gz_m 3 (by omega)) (fun j h1 h2 => c j h1 (by exact gz_m 4 (by omega)))⟩
set_option maxHeartbeats 8000000 in
theorem fo_cn_lt : ∀ {m : Nat} {z' : Int}, fo_cn P x z → P x → x < m → fo_cn P m z' → z < z'
  | 0, _, _, _, l, _ => by exact gz_m 0 (by omega)
  | m + 1, z', h, px, l, hₚ => by
    by_cases e : x = m
    · rcases hₚ with ⟨_, h2⟩ | ⟨h1, _⟩
      · rw [← e] at h2
        have := fo_cn_u h h2
        exact gz_m 1 (by omega)
      · exact absurd (e ▸ px) h1
    · rcases hₚ with ⟨_, h2⟩ | ⟨_, h2⟩
      · have := fo_cn_lt h px (by exact gz_m 2 (by omega)) h2
        exact gz_m 3 (by omega)
      · exact fo_cn_lt h px (by exact gz_m 4 (by omega)) h2
theorem fo_ls_sk (h : fo_ls P f n) (c : ∀ j, n ≤ j → j < m → ¬ P j) : fo_ls P f m := fun x z l px k => h x z (Nat.lt_of_not_le (fun e => c x e l px)) px k
theorem fo_ls_in (h : fo_ls P f n) (k : fo_cn P n z) (q : f' (Int.toNat z) = (n : Int)) (p : ∀ j : Nat, ¬ j = Int.toNat z → f' j = f j) : fo_ls P f' (n + 1) := fun x y l px ky => by
  have hz := fo_cn_b k
  have hy := fo_cn_b ky
  by_cases e : x = n
  · rw [e] at ky
    rw [fo_cn_u ky k, q, e]
  · have := fo_cn_lt ky px (show x < n by omega) k
    rw [p _ (by omega)]
    exact h x y (by omega) px ky
set_option maxHeartbeats 8000000 in
/-- the i-th of them -/
theorem fo_cn_at : ∀ {n : Nat} {z i : Int}, fo_cn P n z → 0 ≤ i → i < z → ∃ x : Nat, x < n ∧ P x ∧ fo_cn P x i
  | 0, z, i, h, h0, h1 => by
    have h2 : z = 0 := h
    exact gz_m 0 (by omega)
  | n + 1, z, i, h, h0, h1 => by
    rcases h with ⟨h2, h3⟩ | ⟨h2, h3⟩
    · by_cases e : i = z - 1
      · exact ⟨n, by exact gz_m 1 (by omega), h2, by rw [e]; exact h3⟩
      · obtain ⟨x, a, b, c⟩ := fo_cn_at h3 h0 (by exact gz_m 2 (by omega))
        exact ⟨x, by exact gz_m 3 (by omega), b, c⟩
    · obtain ⟨x, a, b, c⟩ := fo_cn_at h3 h0 h1
      exact ⟨x, by exact gz_m 4 (by omega), b, c⟩
end CN9
/-! findSame -/
def fo_M (B : Int → Prop) (tx sz g : Nat → Int) (n : Int) (x : Nat) : Prop := B (x : Int) ∧ 1 ≤ sz x ∧ sz x = n ∧ ∀ j : Nat, j < Int.toNat n → tx (24 * x + j) = g j
/-- the letters at the end -/
def fo_ew (tx sz g : Nat → Int) (n x : Int) : Prop := n ≤ sz (Int.toNat x) ∧ ∀ i : Int, 0 ≤ i → i < n → tx (Int.toNat (24 * x + sz (Int.toNat x) - n + i)) = g (Int.toNat i)
def fo_fs (B : Int → Prop) (tx sz g : Nat → Int) (n : Int) (f : Nat → Int) (v4 v5 v6 : Int) : Prop := ∃ lo : Nat, v6 ≤ lo ∧ lo ≤ 1536 ∧ fo_nx (fo_S B tx sz (fo_hz (fo_h g (Int.toNat n)))) lo v5 ∧ fo_cn (fo_M B tx sz g n) lo v4 ∧ fo_ls (fo_M B tx sz g n) f lo
def fo_ft (B : Int → Prop) (tx sz g : Nat → Int) (n : Int) (f : Nat → Int) (v4 v5 v6 : Int) : Prop := v6 ≤ v5 ∧ B v5 ∧ 1 ≤ sz (Int.toNat v5) ∧ fo_hx tx sz v5 = fo_hz (fo_h g (Int.toNat n)) ∧ fo_cn (fo_M B tx sz g n) (Int.toNat v5 + 1) v4 ∧ fo_ls (fo_M B tx sz g n) f (Int.toNat v5 + 1)
section FS9
variable {B : Int → Prop} {tx sz ch hd g f f' : Nat → Int} {n v4 v5 v6 : Int} {x : Nat}
theorem fo_M_h (h : fo_M B tx sz g n x) : fo_S B tx sz (fo_hz (fo_h g (Int.toNat n))) (x : Int) := ⟨h.1, h.2.1, by
  unfold fo_hx
  have e : fo_h (fun j => tx (Int.toNat (24 * (x : Int)) + j)) (Int.toNat n) = fo_h g (Int.toNat n) := fo_h_cg (fun j hj => (congrArg tx (show Int.toNat (24 * (x : Int)) + j = 24 * x + j by omega)).trans (h.2.2.2 j hj))
  rw [show Int.toNat (x : Int) = x from rfl, h.2.2.1, e]⟩
theorem fo_fs_0 (c : fo_CH B tx sz ch hd 0) {z : Int} (hz : z = fo_hz (fo_h g (Int.toNat n))) (z0 : 0 ≤ z) (z5 : z ≤ 511) : fo_fs B tx sz g n f 0 (hd (Int.toNat z)) 0 := ⟨0, by decide, by decide, by
  have h := c.1 (Int.toNat z) (by omega)
  rw [show ((Int.toNat z : Nat) : Int) = z from by omega, hz] at h
  rw [hz]
  exact h, rfl, fun x y l => absurd l (Nat.not_lt_zero x)⟩
theorem fo_fs_e (h : fo_fs B tx sz g n f v4 v5 v6) (b : ∀ x, B x → 0 ≤ x ∧ x < 1536) (c : v5 < 0 ∨ 1536 ≤ v6) : fo_cn (fo_M B tx sz g n) 1536 v4 ∧ fo_ls (fo_M B tx sz g n) f 1536 := by
  obtain ⟨lo, h1, h2, h3, h4, h5⟩ := h
  have nn : ∀ j : Nat, lo ≤ j → j < 1536 → ¬ fo_M B tx sz g n j := by
    intro j j1 j2 mj
    rcases c with c | c
    · rcases h3 with ⟨_, h3⟩ | ⟨h6, _⟩
      · exact h3 j (by omega) (fo_M_h mj)
      · omega
    · omega
  exact ⟨fo_cn_sk h4 h2 nn, fo_ls_sk h5 nn⟩
theorem fo_fs_a (h : fo_fs B tx sz g n f v4 v5 v6) (p : 0 ≤ v5) : ∃ lo : Nat, v6 ≤ lo ∧ (lo : Int) ≤ v5 ∧ fo_S B tx sz (fo_hz (fo_h g (Int.toNat n))) v5 ∧ fo_cn (fo_M B tx sz g n) (Int.toNat v5) v4 ∧ fo_ls (fo_M B tx sz g n) f (Int.toNat v5) := by
  obtain ⟨lo, h1, h2, h3, h4, h5⟩ := h
  rcases h3 with ⟨h6, _⟩ | ⟨h6, h7, h8⟩
  · omega
  · have nn : ∀ j : Nat, lo ≤ j → j < Int.toNat v5 → ¬ fo_M B tx sz g n j := fun j j1 j2 mj => h8 j (by omega) (by omega) (fo_M_h mj)
    exact ⟨lo, h1, h6, h7, fo_cn_sk h4 (by omega) nn, fo_ls_sk h5 nn⟩
theorem fo_fs_n (h : fo_fs B tx sz g n f v4 v5 v6) (p : 0 ≤ v5) (no : ¬ fo_M B tx sz g n (Int.toNat v5)) : fo_ft B tx sz g n f v4 v5 v6 := by
  obtain ⟨lo, h1, h2, h3, h4, h5⟩ := fo_fs_a h p
  exact ⟨by omega, h3.1, h3.2.1, h3.2.2, Or.inr ⟨no, h4⟩, fo_ls_sk h5 (fun j j1 j2 mj => no (by rw [show Int.toNat v5 = j from by omega]; exact mj))⟩
theorem fo_fs_y (h : fo_fs B tx sz g n f v4 v5 v6) (p : 0 ≤ v5) (e : sz (Int.toNat v5) = n) (w : fo_ew tx sz g n v5) (q : f' (Int.toNat v4) = v5) (pp : ∀ j : Nat, ¬ j = Int.toNat v4 → f' j = f j) : fo_ft B tx sz g n f' (v4 + 1) v5 v6 := by
  obtain ⟨lo, h1, h2, h3, h4, h5⟩ := fo_fs_a h p
  have mv : fo_M B tx sz g n (Int.toNat v5) := ⟨by rw [show ((Int.toNat v5 : Nat) : Int) = v5 from by omega]; exact h3.1, h3.2.1, e, fun j hj => by
    have a := w.2 (j : Int) (by omega) (by omega)
    rw [e, show Int.toNat (24 * v5 + n - n + (j : Int)) = 24 * Int.toNat v5 + j from by omega] at a
    exact a⟩
  exact ⟨by omega, h3.1, h3.2.1, h3.2.2, Or.inl ⟨mv, by rw [show v4 + 1 - 1 = v4 from by omega]; exact h4⟩, fo_ls_in h5 h4 (by omega) pp⟩
theorem fo_fs_x1 (e : ¬ sz (Int.toNat v5) = n) : ¬ fo_M B tx sz g n (Int.toNat v5) := fun m => e m.2.2.1
theorem fo_fs_x2 (p : 0 ≤ v5) (w : ¬ fo_ew tx sz g n v5) : ¬ fo_M B tx sz g n (Int.toNat v5) := fun m => w ⟨by rw [m.2.2.1]; exact Int.le_refl _, fun i i0 i1 => by
  rw [m.2.2.1, show Int.toNat (24 * v5 + n - n + i) = 24 * Int.toNat v5 + Int.toNat i from by omega]
  exact m.2.2.2 (Int.toNat i) (by omega)⟩
theorem fo_ft_s (h : fo_ft B tx sz g n f v4 v5 v6) (c : fo_CH B tx sz ch hd 0) (b : ∀ x, B x → 0 ≤ x ∧ x < 1536) : fo_fs B tx sz g n f v4 (ch (Int.toNat v5)) (v6 + 1) := by
  obtain ⟨h1, h2, h3, h4, h5, h6⟩ := h
  have b5 := b v5 h2
  refine ⟨Int.toNat v5 + 1, by omega, by omega, ?_, h5, h6⟩
  have k := c.2 v5 b5.1 h2 h3
  rw [h4, show v5 + 1 = ((Int.toNat v5 + 1 : Nat) : Int) from by omega] at k
  exact k
end FS9
/-! the FORM of a WORD in a CELL, the class's side (p9 to p13) -/
def fo_Rc (I : gr_I) (t : Nat) (w c : Int) : Nat := Int.toNat (72 * gs_fw I t w 1 + 3 * c)
def fo_Scl (I : gr_I) (t : Nat) (w b : Int) : fo_c := fo_sc (I 20) (gs_fw I t w) (Int.toNat (b - 1))
def fo_wc (I : gr_I) (t : Nat) (w c : Int) : fo_c := if I (t + 14) (fo_Rc I t w c + 2) < 0 then none else fo_jn (fo_Scl I t w) (fun k => I 20 (Int.toNat (I (t + 14) (fo_Rc I t w c + 1) + k))) (Int.toNat (I (t + 14) (fo_Rc I t w c + 2)))
/-- what join() answers -/
def fo_jo (I : gr_I) (t : Nat) (w c : Int) (Iₚ : gr_I) (p : Nat) (z : Int) : Prop := (z = -1 ∧ fo_wc I t w c = none) ∨ (0 ≤ z ∧ fo_wc I t w c = some (z, so_b z (Iₚ (so_fb I p 6))))
/-- the loop's state: from the begin b of a FORM of m bytes, i of it are joined to n letters -/
def fo_js (I : gr_I) (t : Nat) (w c : Int) (I1 : gr_I) (p : Nat) (b e i n : Int) : Prop := b = I (t + 14) (fo_Rc I t w c + 1) ∧ e = b + I (t + 14) (fo_Rc I t w c + 2) ∧ b ≤ i ∧ gs_o2 (i ≤ e) (i = b) ∧ fo_jn (fo_Scl I t w) (fun k => I 20 (Int.toNat (b + k))) (Int.toNat (i - b)) = some (n, so_b n (I1 (so_fb I p 6)))
/-- the chunk at hand -/
def fo_jc (I : gr_I) (t : Nat) (w i a m : Int) : Prop := ∃ y : Int → Int, fo_ch (fo_Scl I t w) (I 20 (Int.toNat i)) = some (m, y) ∧ ∀ k : Int, 0 ≤ k → k < m → y k = I 20 (Int.toNat (a + k))
section FC9
variable {I I1 Iₚ : gr_I} {t p : Nat} {w c b e i n a m z : Int} {S : Int → fo_c} {g : Int → Int}
theorem fo_jn_none {j : Nat} : ∀ {k : Nat}, fo_jn S g j = none → j ≤ k → fo_jn S g k = none
  | 0, h, hk => by
    rw [show j = 0 from by omega] at h
    exact h
  | k + 1, h, hk => by
    by_cases e : j = k + 1
    · rw [← e]
      exact h
    · show fo_ap (fo_jn S g k) _ = none
      rw [fo_jn_none h (by omega)]
      rfl
theorem fo_js_0 (hb : b = I (t + 14) (fo_Rc I t w c + 1)) (he : e = b + I (t + 14) (fo_Rc I t w c + 2)) : fo_js I t w c I p b e b 0 := ⟨hb, he, Int.le_refl _, Or.inr rfl, by
  rw [show Int.toNat (b - b) = 0 from by omega, so_b_0]
  rfl⟩
theorem fo_js_s (h : fo_js I t w c I1 p b e i n) (k : fo_jc I t w i a m) (hi : i < e) (hn : 0 ≤ n) (hm : 0 ≤ m) (l : n + m ≤ 24) (ps : ∀ j : Nat, ¬ (Int.toNat n ≤ j ∧ j < Int.toNat n + Int.toNat m) → Iₚ (so_fb I p 6) j = I1 (so_fb I p 6) j) (qs : ∀ j : Nat, j < Int.toNat m → Iₚ (so_fb I p 6) (Int.toNat n + j) = I 20 (Int.toNat a + j)) (ha : 0 ≤ a) : fo_js I t w c Iₚ p b e (i + 1) (n + m) := by
  obtain ⟨h1, h2, h3, _, h5⟩ := h
  obtain ⟨y, k1, k2⟩ := k
  refine ⟨h1, h2, by omega, Or.inl (by omega), ?_⟩
  rw [show Int.toNat (i + 1 - b) = Int.toNat (i - b) + 1 from by omega]
  show fo_ap (fo_jn _ _ (Int.toNat (i - b))) (fo_ch (fo_Scl I t w) (I 20 (Int.toNat (b + ((Int.toNat (i - b) : Nat) : Int))))) = _
  rw [h5, show b + ((Int.toNat (i - b) : Nat) : Int) = i from by omega, k1]
  show (if 24 < n + m then none else some (n + m, so_app (so_b n (I1 (so_fb I p 6))) n m y)) = _
  rw [if_neg (by omega), so_app_c (m := n) (k := m) (f := y) hn hm ps (fun j hj => by rw [qs j hj, k2 (j : Int) (by omega) (by omega), show Int.toNat (a + (j : Int)) = Int.toNat a + j from by omega])]
theorem fo_js_x (h : fo_js I t w c I1 p b e i n) (k : fo_ch (fo_Scl I t w) (I 20 (Int.toNat i)) = none ∨ (fo_jc I t w i a m ∧ 24 < n + m)) (hi : i < e) : fo_jo I t w c Iₚ p (-1) := by
  obtain ⟨h1, h2, h3, _, h5⟩ := h
  refine Or.inl ⟨rfl, ?_⟩
  unfold fo_wc
  rw [if_neg (by omega)]
  refine fo_jn_none (j := Int.toNat (i - b) + 1) ?_ (by omega)
  show fo_ap (fo_jn _ _ (Int.toNat (i - b))) (fo_ch (fo_Scl I t w) (I 20 (Int.toNat (I (t + 14) (fo_Rc I t w c + 1) + ((Int.toNat (i - b) : Nat) : Int))))) = none
  rw [← h1, h5, show b + ((Int.toNat (i - b) : Nat) : Int) = i from by omega]
  rcases k with k | ⟨⟨y, k1, _⟩, l⟩
  · rw [k]
    rfl
  · rw [k1]
    exact if_pos l
theorem fo_js_e (h : fo_js I t w c I1 p b e i n) (hi : e ≤ i) (he : b ≤ e) (hn : 0 ≤ n) : fo_jo I t w c I1 p n := by
  obtain ⟨h1, h2, h3, h4, h5⟩ := h
  have ei : i = e := by
    rcases h4 with h4 | h4 <;> omega
  refine Or.inr ⟨hn, ?_⟩
  unfold fo_wc
  rw [if_neg (by omega), ← h1, show Int.toNat (I (t + 14) (fo_Rc I t w c + 2)) = Int.toNat (i - b) from by omega]
  exact h5
theorem fo_js_l (h : fo_js I t w c I1 p b e i n) (he : e < b) : fo_jo I t w c Iₚ p (-1) := by
  obtain ⟨h1, h2, _⟩ := h
  refine Or.inl ⟨rfl, if_pos ?_⟩
  omega
theorem fo_jc_l (h : 3 < I 20 (Int.toNat i)) : fo_jc I t w i i 1 := ⟨fun _ => I 20 (Int.toNat i), if_neg (by omega), fun k k0 k1 => by rw [show i + k = i from by omega]⟩
theorem fo_jc_s {q v5 : Int} (hq : q = I 20 (Int.toNat i)) (h1 : 1 ≤ q) (h3 : q ≤ 3) (hv : v5 = 11 * w + 5) (hw : 0 ≤ w) (h4 : q ≤ I (t + 15) (Int.toNat (v5 - 1))) (ha : a = I (t + 15) (Int.toNat (v5 + 2 * q - 2))) (hm : m = I (t + 15) (Int.toNat (v5 + 2 * q - 1))) : fo_jc I t w i a m := by
  have e4 : gs_fw I t w 4 = I (t + 15) (Int.toNat (v5 - 1)) := by
    unfold gs_fw
    rw [show Int.toNat (11 * w) + 4 = Int.toNat (v5 - 1) from by omega]
  have e5 : gs_fw I t w (5 + 2 * Int.toNat (q - 1)) = a := by
    unfold gs_fw
    rw [ha, show Int.toNat (11 * w) + (5 + 2 * Int.toNat (q - 1)) = Int.toNat (v5 + 2 * q - 2) from by omega]
  have e6 : gs_fw I t w (6 + 2 * Int.toNat (q - 1)) = m := by
    unfold gs_fw
    rw [hm, show Int.toNat (11 * w) + (6 + 2 * Int.toNat (q - 1)) = Int.toNat (v5 + 2 * q - 1) from by omega]
  refine ⟨so_cut m (fun i => I 20 (Int.toNat (a + i))), ?_, fun k k0 k1 => so_cut_i k0 k1⟩
  rw [← hq]
  unfold fo_ch
  rw [if_pos h3]
  unfold fo_Scl fo_sc
  rw [if_neg (show ¬ gs_fw I t w 4 ≤ ((Int.toNat (q - 1) : Nat) : Int) by rw [e4]; omega), e5, e6]
theorem fo_jc_n {q v5 : Int} (hq : q = I 20 (Int.toNat i)) (h1 : 1 ≤ q) (h3 : q ≤ 3) (hv : v5 = 11 * w + 5) (hw : 0 ≤ w) (h4 : I (t + 15) (Int.toNat (v5 - 1)) < q) : fo_ch (fo_Scl I t w) (I 20 (Int.toNat i)) = none := by
  rw [← hq]
  unfold fo_ch
  rw [if_pos h3]
  unfold fo_Scl fo_sc
  have e4 : gs_fw I t w 4 = I (t + 15) (Int.toNat (v5 - 1)) := by
    unfold gs_fw
    rw [show Int.toNat (11 * w) + 4 = Int.toNat (v5 - 1) from by omega]
  rw [if_pos (show gs_fw I t w 4 ≤ ((Int.toNat (q - 1) : Nat) : Int) by rw [e4]; omega)]
end FC9
/-! all forms of a TONGUE, kept (p9 to p13): rows p + 1 (letters), p + 2 (how many), p + 3 (chain), p + 4 (head) -/
def fo_F1 (I I1 : gr_I) (t p : Nat) (w c : Int) : Prop := fo_out (fun k : Nat => so_rc I t (k : Int)) (Int.toNat (I t 6)) (fo_wc I t w c) (fun k => I1 (p + 1) (Int.toNat (24 * (24 * w + c)) + k)) (I1 (p + 2) (Int.toNat (24 * w + c)))
def fo_cs (I : gr_I) (t : Nat) (w : Int) : Int := I (t + 13) (Int.toNat (gs_fw I t w 1))
/-- x is the number of a WORD's CELL -/
def fo_al (I : gr_I) (t : Nat) (x : Int) : Prop := ∃ w c : Int, x = 24 * w + c ∧ 0 ≤ w ∧ w < I t 11 ∧ 0 ≤ c ∧ c < fo_cs I t w
def fo_HC (I I1 : gr_I) (t p : Nat) (lo : Int) : Prop := fo_CH (fo_al I t) (I1 (p + 1)) (I1 (p + 2)) (I1 (p + 3)) (I1 (p + 4)) lo
def fo_FC (I I1 : gr_I) (t p : Nat) : Prop := (∀ w c : Int, 0 ≤ w → w < I t 11 → 0 ≤ c → c < fo_cs I t w → fo_F1 I I1 t p w c) ∧ fo_HC I I1 t p 0
/-- from the last one down to those behind w, c -/
def fo_D (I I1 : gr_I) (t p : Nat) (w c : Int) : Prop := ¬ I1 p 6 = I1 p 7 ∧ (∀ w' c' : Int, 0 ≤ w' → w' < I t 11 → 0 ≤ c' → c' < fo_cs I t w' → (w < w' ∨ (w' = w ∧ c < c')) → fo_F1 I I1 t p w' c') ∧ fo_HC I I1 t p (24 * w + c + 1)
/-- bytes of FORMS are stems' numbers or letters -/
def fo_by (I : gr_I) (t : Nat) : Prop := ∀ w c : Int, 0 ≤ w → w < I t 11 → 0 ≤ c → c < fo_cs I t w → ∀ i : Int, I (t + 14) (fo_Rc I t w c + 1) ≤ i → i < I (t + 14) (fo_Rc I t w c + 1) + I (t + 14) (fo_Rc I t w c + 2) → 1 ≤ I 20 (Int.toNat i)
section FD9
variable {I I1 I2 Iₚ : gr_I} {t p : Nat} {w c z n : Int} {U : Nat → so_ru} {d : Nat} {y : fo_c} {g gₚ : Nat → Int}
theorem fo_out_cg (h : fo_out U d y g z) (e : 1 ≤ z → so_b z gₚ = so_b z g) : fo_out U d y gₚ z := by
  cases y with
  | none => exact h
  | some x =>
    obtain ⟨n', fin, z9, a, b⟩ := h
    refine ⟨n', fin, z9, a, ?_⟩
    rcases b with ⟨b1, b2, b3, b4⟩ | b
    · exact Or.inl ⟨b1, b2, b3, by rw [← b4, ← b2]; exact e (by omega)⟩
    · exact Or.inr b
theorem so_all_0 {U : Nat → so_ru} {b : Int → Int} : ∀ {r : Nat}, so_all U r b 0 b 0
  | 0 => ⟨rfl, rfl⟩
  | r + 1 => ⟨b, 0, so_all_0, Or.inl ⟨by decide, rfl, rfl⟩⟩
theorem fo_out_j (h : fo_jo I t w c Iₚ p n) (hn : n ≤ 0) : fo_out U d (fo_wc I t w c) g (-1) := by
  rcases h with ⟨_, h⟩ | ⟨h0, h⟩
  · exact fo_out_n h rfl
  · have e : n = 0 := by omega
    rw [e] at h
    exact fo_out_s h (n' := 0) ⟨_, 0, so_all_0, Or.inr ⟨by decide, rfl⟩⟩
theorem fo_out_p {n' : Int} (h : fo_jo I t w c Iₚ p n) (hn : 0 < n) (o : so_out U d (so_b n (Iₚ (so_fb I p 6))) n g n' z) : fo_out U d (fo_wc I t w c) g z := by
  rcases h with ⟨h0, _⟩ | ⟨_, h⟩
  · omega
  · exact fo_out_s h o
theorem fo_wc_eq (h13 : ∀ q j : Nat, (q = 20 ∨ q = t + 14 ∨ q = t + 15) → I1 q j = I q j) : fo_wc I1 t w c = fo_wc I t w c ∧ fo_Rc I1 t w c = fo_Rc I t w c ∧ gs_fw I1 t w = gs_fw I t w := by
  have e1 : gs_fw I1 t w = gs_fw I t w := funext fun k => h13 (t + 15) _ (Or.inr (Or.inr rfl))
  have e2 : fo_Rc I1 t w c = fo_Rc I t w c := by
    unfold fo_Rc
    rw [e1]
  have e3 : I1 20 = I 20 := funext fun k => h13 20 k (Or.inl rfl)
  have e4 : I1 (t + 14) = I (t + 14) := funext fun k => h13 (t + 14) k (Or.inr (Or.inl rfl))
  have e5 : fo_Scl I1 t w = fo_Scl I t w := by
    unfold fo_Scl
    rw [e1, e3]
  refine ⟨?_, e2, e1⟩
  unfold fo_wc
  rw [e2, e3, e4, e5]
theorem fo_D_0 (hne : ¬ I1 p 6 = I1 p 7) (hw : w = I t 11 - 1) (b : ∀ w', fo_cs I t w' ≤ 24) (hd : ∀ k : Nat, k < 512 → I1 (p + 4) k = -1) : fo_D I I1 t p w 23 := ⟨hne, fun w' c' h0 h1 h2 h3 h4 => by
  have := b w'
  omega, fo_CH_0 hd (fun x hx a => by
  obtain ⟨w', c', e, a0, a1, a2, a3⟩ := a
  have := b w'
  omega)⟩
theorem fo_D_in (h : fo_D I I1 t p w 23) (hc : c = fo_cs I t w - 1) (hc0 : -1 ≤ c) (b : ∀ w', fo_cs I t w' ≤ 24) : fo_D I I1 t p w c := ⟨h.1, fun w' c' h0 h1 h2 h3 h4 => by
  rcases h4 with h4 | ⟨h4, h5⟩
  · exact h.2.1 w' c' h0 h1 h2 h3 (Or.inl h4)
  · rw [h4] at h3
    omega, fo_CH_dn h.2.2 (by have := b w; omega) (fun x h1 h2 a => by
  obtain ⟨w', c', e, a0, a1, a2, a3⟩ := a
  have b1 := b w'
  have b2 := b w
  have e9 : w' = w := by omega
  rw [e9] at a3 e
  omega)⟩
theorem fo_D_out (h : fo_D I I1 t p w c) (hc : c = -1) (b : ∀ w', fo_cs I t w' ≤ 24) : fo_D I I1 t p (w - 1) 23 := ⟨h.1, fun w' c' h0 h1 h2 h3 h4 => by
  have := b w'
  rcases h4 with h4 | ⟨h4, h5⟩
  · by_cases e : w' = w
    · exact h.2.1 w' c' h0 h1 h2 h3 (Or.inr ⟨e, by omega⟩)
    · exact h.2.1 w' c' h0 h1 h2 h3 (Or.inl (by omega))
  · omega, by
  rw [show 24 * (w - 1) + 23 + 1 = 24 * w + c + 1 from by omega]
  exact h.2.2⟩
theorem fo_D_fr (h : fo_D I I1 t p w c) (hne : ¬ I2 p 6 = I2 p 7) (f2 : ∀ j, I2 (p + 2) j = I1 (p + 2) j) (f1 : ∀ j, I2 (p + 1) j = I1 (p + 1) j) (f3 : ∀ j, I2 (p + 3) j = I1 (p + 3) j) (f4 : ∀ j, I2 (p + 4) j = I1 (p + 4) j) : fo_D I I2 t p w c := ⟨hne, fun w' c' h0 h1 h2 h3 h4 => by
  have o := h.2.1 w' c' h0 h1 h2 h3 h4
  unfold fo_F1 at o ⊢
  rw [f2]
  exact fo_out_cg o (fun _ => so_b_cg rfl (fun j _ => f1 _)), fo_CH_cg h.2.2 (fun x _ _ => ⟨f2 _, f3 _, fun j _ => f1 _⟩) f4⟩
theorem fo_D_e (h : fo_D I I1 t p w 23) (hw : w = -1) : fo_FC I I1 t p := ⟨fun w' c' h0 h1 h2 h3 => h.2.1 w' c' h0 h1 h2 h3 (Or.inl (by omega)), by
  have k := h.2.2
  rw [show 24 * w + 23 + 1 = 0 from by omega] at k
  exact k⟩
theorem fo_D_s (h : fo_D I I1 t p w c) (hw : 0 ≤ w) (hc : 0 ≤ c ∧ c < 24) (b : ∀ w', fo_cs I t w' ≤ 24) (hne : ¬ I2 p 6 = I2 p 7) (f2 : ∀ j : Nat, ¬ j = Int.toNat (24 * w + c) → I2 (p + 2) j = I1 (p + 2) j) (f1 : ∀ j : Nat, ¬ (Int.toNat (24 * (24 * w + c)) ≤ j ∧ j < Int.toNat (24 * (24 * w + c)) + 24) → I2 (p + 1) j = I1 (p + 1) j) (nw : fo_F1 I I2 t p w c) (bz : ∀ j : Nat, I1 (p + 2) j ≤ 24) (k : fo_HC I I2 t p (24 * w + c)) : fo_D I I2 t p w (c - 1) := ⟨hne, fun w' c' h0 h1 h2 h3 h4 => by
  have hb := b w'
  by_cases e : w' = w ∧ c' = c
  · rw [e.1, e.2]
    exact nw
  · have o := h.2.1 w' c' h0 h1 h2 h3 (by omega)
    unfold fo_F1 at o ⊢
    have ne : ¬ 24 * w' + c' = 24 * w + c := by omega
    rw [f2 _ (by omega)]
    have bz' := bz (Int.toNat (24 * w' + c'))
    exact fo_out_cg o (fun _ => so_b_cg rfl (fun j hj => f1 _ (by omega))), by
  rw [show 24 * w + (c - 1) + 1 = 24 * w + c from by omega]
  exact k⟩
theorem fo_D_rs (hw : 0 ≤ w) (hc : 0 ≤ c) (f2 : ∀ j : Nat, ¬ j = Int.toNat (24 * w + c) → I2 (p + 2) j = I1 (p + 2) j) (f1 : ∀ j : Nat, ¬ (Int.toNat (24 * (24 * w + c)) ≤ j ∧ j < Int.toNat (24 * (24 * w + c)) + 24) → I2 (p + 1) j = I1 (p + 1) j) (f3 : ∀ j : Nat, ¬ j = Int.toNat (24 * w + c) → I2 (p + 3) j = I1 (p + 3) j) : fo_rs (fo_al I t) (I1 (p + 1)) (I1 (p + 2)) (I1 (p + 3)) (I2 (p + 1)) (I2 (p + 2)) (I2 (p + 3)) (24 * w + c + 1) := fun x hx _ => ⟨f2 _ (by omega), f3 _ (by omega), fun j _ => f1 _ (by omega)⟩
theorem fo_D_n (h : fo_D I I1 t p w c) (hw : 0 ≤ w) (hc : 0 ≤ c ∧ c < 24) (b : ∀ w', fo_cs I t w' ≤ 24) (hne : ¬ I2 p 6 = I2 p 7) (f2 : ∀ j : Nat, ¬ j = Int.toNat (24 * w + c) → I2 (p + 2) j = I1 (p + 2) j) (f1 : ∀ j : Nat, ¬ (Int.toNat (24 * (24 * w + c)) ≤ j ∧ j < Int.toNat (24 * (24 * w + c)) + 24) → I2 (p + 1) j = I1 (p + 1) j) (f3 : ∀ j : Nat, ¬ j = Int.toNat (24 * w + c) → I2 (p + 3) j = I1 (p + 3) j) (f4 : ∀ j : Nat, I2 (p + 4) j = I1 (p + 4) j) (nw : fo_F1 I I2 t p w c) (bz : ∀ j : Nat, I1 (p + 2) j ≤ 24) (z0 : ¬ 1 ≤ I2 (p + 2) (Int.toNat (24 * w + c))) : fo_D I I2 t p w (c - 1) := fo_D_s h hw hc b hne f2 f1 nw bz (fo_CH_no h.2.2 (fo_D_rs hw hc.1 f2 f1 f3) f4 z0)
theorem fo_D_k {k : Nat} (h : fo_D I I1 t p w c) (hw : 0 ≤ w) (hc : 0 ≤ c ∧ c < 24) (b : ∀ w', fo_cs I t w' ≤ 24) (hne : ¬ I2 p 6 = I2 p 7) (f2 : ∀ j : Nat, ¬ j = Int.toNat (24 * w + c) → I2 (p + 2) j = I1 (p + 2) j) (f1 : ∀ j : Nat, ¬ (Int.toNat (24 * (24 * w + c)) ≤ j ∧ j < Int.toNat (24 * (24 * w + c)) + 24) → I2 (p + 1) j = I1 (p + 1) j) (f3 : ∀ j : Nat, ¬ j = Int.toNat (24 * w + c) → I2 (p + 3) j = I1 (p + 3) j) (f4 : ∀ j : Nat, ¬ j = k → I2 (p + 4) j = I1 (p + 4) j) (nw : fo_F1 I I2 t p w c) (bz : ∀ j : Nat, I1 (p + 2) j ≤ 24) (wl : w < I t 11) (cl : c < fo_cs I t w) (z1 : 1 ≤ I2 (p + 2) (Int.toNat (24 * w + c))) (hk : (k : Int) = fo_hx (I2 (p + 1)) (I2 (p + 2)) (24 * w + c)) (k5 : k < 512) (c3 : I2 (p + 3) (Int.toNat (24 * w + c)) = I1 (p + 4) k) (h4 : I2 (p + 4) k = 24 * w + c) : fo_D I I2 t p w (c - 1) := fo_D_s h hw hc b hne f2 f1 nw bz (fo_CH_in h.2.2 (fo_D_rs hw hc.1 f2 f1 f3) ⟨w, c, rfl, hw, wl, hc.1, cl⟩ z1 hk k5 c3 h4 f4)
/-- the hash of the letters at hand is that of the FORM which was laid -/
theorem fo_hx_l {g : Nat → Int} {tx sz : Nat → Int} {x n z : Int} {k : Nat} (e : z = fo_hz (fo_h g (Int.toNat n))) (z0 : 0 ≤ z) (hk : k = Int.toNat z) (hs : sz (Int.toNat x) = n) (ht : ∀ j : Nat, j < Int.toNat n → tx (Int.toNat (24 * x) + j) = g j) : (k : Int) = fo_hx tx sz x := by
  unfold fo_hx
  rw [hs, fo_h_cg ht, ← e, hk]
  omega
end FD9
