/-! WORDS with what they hold (p9 to p13). Tokens: how many stems, the VALUES, the price -/
def gs_smn (β : Int → Int) (N : Int) : Nat → Int → Nat
  | 0, _ => 0
  | m + 1, q => if gs_T β N q = 3 then gs_smn β N m (gs_X β N q) + 1 else 0
def gs_hvk (β : Int → Int) (N : Int) (I : gr_I) (J : gr_J) : Nat → Int → Int → Int → Int
  | 0, _, k, _ => k
  | m + 1, fi, k, q => if gs_T β N q = 1 ∧ (¬ fi = 0 ∨ ¬ gs_rn β N q = gs_W 92) then (if gs_ov β N I J k q < 0 then k else gs_hvk β N I J m 0 (gs_ovk β N I J k q) (gs_ov β N I J k q)) else k
/-- the VALUES of a WORD behind whose stems q stands, and what stands behind them -/
def gs_wvl (β : Int → Int) (N : Int) (I : gr_I) (J : gr_J) (q : Int) : Int := if gs_kw β N q (gs_W 93) = 1 then gs_hvk β N I J 1002 1 0 (gs_X β N q) else 0
def gs_wve (β : Int → Int) (N : Int) (I : gr_I) (J : gr_J) (q : Int) : Int := if gs_kw β N q (gs_W 93) = 1 then gs_hv β N I J 1002 1 0 (gs_X β N q) else q
section W9
variable {β : Int → Int} {N p q : Int} {I I1 I2 I3 I4 Iₚ : gr_I} {J Jₚ : gr_J} {n k fi : Int} {m : Nat}
theorem gs_stm_sp : ∀ (m : Nat) (q : Int), gs_stm β N m q = gs_sp β N (gs_smn β N m q) q
  | 0, _ => rfl
  | m + 1, q => by
    show (if gs_T β N q = 3 then gs_stm β N m (gs_X β N q) else q) = gs_sp β N (if gs_T β N q = 3 then gs_smn β N m (gs_X β N q) + 1 else 0) q
    by_cases c : gs_T β N q = 3
    · rw [if_pos c, if_pos c, gs_stm_sp m (gs_X β N q)]
      exact gs_sp_s _ _
    · rw [if_neg c, if_neg c]
      rfl
theorem gs_smn_3 : ∀ (m : Nat) (q : Int), gs_smn β N m q ≤ m
  | 0, _ => Nat.le_refl 0
  | m + 1, q => by
    show (if _ then _ else _) ≤ _
    split
    · exact Nat.succ_le_succ (gs_smn_3 m _)
    · exact Nat.zero_le _
theorem gs_smn_e (h : ¬ gs_T β N q = 3 ∨ 3 ≤ n) : gs_smn β N (Int.toNat (3 - n)) q = 0 := by
  by_cases c : 3 ≤ n
  · rw [show Int.toNat (3 - n) = 0 from by omega]
    rfl
  · rw [show Int.toNat (3 - n) = Int.toNat (3 - (n + 1)) + 1 from by omega]
    show (if _ then _ else _) = _
    rw [if_neg (h.resolve_right c)]
theorem gs_hvk_s (h : gs_T β N q = 1) (g : ¬ fi = 0 ∨ ¬ gs_rn β N q = gs_W 92) (u : ¬ gs_ov β N I J k q < 0) : gs_hvk β N I J (m + 1) fi k q = gs_hvk β N I J m 0 (gs_ovk β N I J k q) (gs_ov β N I J k q) := by
  show (if _ then _ else _) = _
  rw [if_pos ⟨h, g⟩, if_neg u]
theorem gs_hvk_e (h : ¬ gs_T β N q = 1 ∨ (fi = 0 ∧ gs_rn β N q = gs_W 92)) : gs_hvk β N I J m fi k q = k := by
  cases m with
  | zero => rfl
  | succ m =>
    show (if _ then _ else _) = _
    rw [if_neg (fun c => h.elim (fun a => a c.1) (fun a => c.2.elim (fun b => b a.1) (fun b => b a.2)))]
/-- stems are read: n so far, the token from q on is at hand -/
def gs_w2 (β : Int → Int) (N : Int) (I : gr_I) (p : Int) (I1 : gr_I) (n q : Int) : Prop := (∀ k : Nat, (k : Int) < n → gs_itx I I1 (I 0 6) (I1 67 k) (0, gs_tl β N (gs_sp β N k p))) ∧ (∀ k : Nat, n ≤ (k : Int) → k < 3 → I1 67 k = -1) ∧ q = gs_sp β N (Int.toNat n) p ∧ gs_smn β N 3 p = gs_smn β N (Int.toNat (3 - n)) q + Int.toNat n
theorem gs_w2_0 (h : ∀ k : Nat, (k : Int) < n → I1 67 k = -1) (hn : 3 ≤ n) (hq : q = p) : gs_w2 β N I p I1 0 q := ⟨fun k h => absurd h (by omega), fun k _ hk => h k (by omega), hq, by rw [hq]; rfl⟩
theorem gs_w2_s {L y : Int} {c : Nat} (h : gs_w2 β N I p I1 n q) (hn : 0 ≤ n ∧ n < 3) (hT : gs_T β N q = 3) (l : gr_LKs I1 I2) (e67 : ∀ j, I2 67 j = I1 67 j) (hc : gs_itx I I2 (I 0 6) y (0, gs_tl β N q)) (hk : c = Int.toNat n) (ps : ∀ b j, ¬ (b = 67 ∧ j = c) → I3 b j = I2 b j) (qs : I3 67 c = y) (l4 : gr_LKs I3 I4) (e4 : ∀ j, I4 67 j = I3 67 j) (hq : L = gs_X β N q) : gs_w2 β N I p I4 (n + 1) L := by
  subst hq hk
  obtain ⟨h1, h2, h3, h4⟩ := h
  have l3 : gr_LKs I2 I3 := gr_LKs_fr gr_LKs_rf (fun k => ps 51 k (fun q => absurd q.1 (by first | exact gz_ne rfl | decide))) (ps 0 59 (fun q => absurd q.1 (by first | exact gz_ne rfl | decide)))
  refine ⟨fun k hk => ?_, fun k k1 k2 => ?_, ?_, ?_⟩
  · by_cases c : (k : Int) = n
    · rw [e4, show k = Int.toNat n from by omega, qs, ← h3]
      exact gs_itx_kp (gs_itx_kp hc l3) l4
    · rw [e4, ps 67 k (fun q => by have := q.2; omega), e67]
      exact gs_itx_kp (gs_itx_kp (gs_itx_kp (h1 k (by omega)) l) l3) l4
  · rw [e4, ps 67 k (fun q => by have := q.2; omega), e67]
    exact h2 k (by omega) k2
  · rw [show Int.toNat (n + 1) = Int.toNat n + 1 from by omega]
    show gs_X β N q = gs_X β N (gs_sp β N (Int.toNat n) p)
    rw [h3]
  · rw [h4, show Int.toNat (3 - n) = Int.toNat (3 - (n + 1)) + 1 from by omega]
    show (if _ then _ else _) + _ = _
    rw [if_pos hT]
    omega
/-- all stems are read -/
def gs_w3 (β : Int → Int) (N : Int) (I : gr_I) (p : Int) (I1 : gr_I) (f : Nat → Int) : Prop := (∀ k : Nat, k < gs_smn β N 3 p → gs_itx I I1 (I 0 6) (f k) (0, gs_tl β N (gs_sp β N k p))) ∧ ∀ k : Nat, gs_smn β N 3 p ≤ k → k < 3 → f k = -1
theorem gs_w3_mk (h : gs_w2 β N I p I1 n q) (hn : 0 ≤ n) (he : ¬ gs_T β N q = 3 ∨ 3 ≤ n) : gs_w3 β N I p I1 (I1 67) ∧ q = gs_stm β N 3 p := by
  obtain ⟨h1, h2, h3, h4⟩ := h
  rw [gs_smn_e he] at h4
  refine ⟨⟨fun k hk => h1 k (by omega), fun k k1 k2 => h2 k (by omega) k2⟩, ?_⟩
  rw [gs_stm_sp, h4, h3, show 0 + Int.toNat n = Int.toNat n from by omega]
theorem gs_w3_kp {f f' : Nat → Int} (h : gs_w3 β N I p I1 f) (l : gr_LKs I1 I2) (e : ∀ k, k < 3 → f' k = f k) : gs_w3 β N I p I2 f' := ⟨fun k hk => by
    have := gs_smn_3 (β := β) (N := N) 3 p
    rw [e k (by omega)]
    exact gs_itx_kp (h.1 k hk) l, fun k k1 k2 => (e k k2).trans (h.2 k k1 k2)⟩
def gs_Wn (I : gr_I) : Nat := Int.toNat (64 * I 0 6 + I 18 (Int.toNat (I 0 6)))
def gs_wpt (β : Int → Int) (N : Int) (I : gr_I) (J : gr_J) (p : Int) : Int := gs_lt J 23 (24 * I 0 6) (I 17 (Int.toNat (I 0 6))) (gs_rn β N (gs_X β N p))
/-- the WORD comes: its function and its PATTERN are there, and m stems -/
def gs_w9 (F P : Int) (W : Nat) (m : Int) (I I1 : gr_I) : Prop := (I1 36 W = F ∧ I1 37 W = P) ∧ (∀ j, ¬ j = W → I1 36 j = I 36 j ∧ I1 37 j = I 37 j) ∧ (∀ j, I1 39 j = I 39 j ∧ I1 40 j = I 40 j) ∧ (∀ k : Nat, (k : Int) < m → I1 38 (3 * W + k) = I1 67 k) ∧ ∀ j : Nat, ¬ (3 * W ≤ j ∧ j < 3 * W + 3) → I1 38 j = I 38 j
theorem gs_w9_0 {F P : Int} {W a b : Nat} (h : ∀ j, I1 36 j = I 36 j ∧ I1 37 j = I 37 j ∧ I1 38 j = I 38 j ∧ I1 39 j = I 39 j ∧ I1 40 j = I 40 j) (ha : a = W) (pa : ∀ x j, ¬ (x = 36 ∧ j = a) → I2 x j = I1 x j) (qa : I2 36 a = F) (hb : b = W) (pb : ∀ x j, ¬ (x = 37 ∧ j = b) → I3 x j = I2 x j) (qb : I3 37 b = P) : gs_w9 F P W 0 I I3 := by
  subst ha
  subst hb
  have e : ∀ x j, ¬ x = 36 → ¬ x = 37 → I3 x j = I1 x j := fun x j h1 h2 => by
    rw [pb x j (fun q => h2 q.1), pa x j (fun q => h1 q.1)]
  refine ⟨⟨by rw [pb 36 _ (fun q => absurd q.1 (by first | exact gz_ne rfl | decide))]; exact qa, qb⟩, fun j hj => ⟨?_, ?_⟩, fun j => ⟨?_, ?_⟩, fun k hk => absurd hk (by omega), fun j _ => ?_⟩
  · rw [pb 36 _ (fun q => absurd q.1 (by first | exact gz_ne rfl | decide)), pa 36 j (fun q => hj q.2)]
    exact (h j).1
  · rw [pb 37 j (fun q => hj q.2), pa 37 j (fun q => absurd q.1 (by first | exact gz_ne rfl | decide))]
    exact (h j).2.1
  · rw [e 39 j (by decide) (by decide)]
    exact (h j).2.2.2.1
  · rw [e 40 j (by decide) (by decide)]
    exact (h j).2.2.2.2
  · rw [e 38 j (by decide) (by decide)]
    exact (h j).2.2.1
theorem gs_w9_s {F P m : Int} {W c : Nat} (h : gs_w9 F P W m I I1) (hm : 0 ≤ m ∧ m < 3) (hc : c = 3 * W + Int.toNat m) (ps : ∀ x j, ¬ (x = 38 ∧ j = c) → I2 x j = I1 x j) (qs : I2 38 c = I1 67 (Int.toNat m)) : gs_w9 F P W (m + 1) I I2 := by
  subst hc
  obtain ⟨⟨a1, a2⟩, b, c, d, e⟩ := h
  have o : ∀ x j, ¬ x = 38 → I2 x j = I1 x j := fun x j h1 => ps x j (fun q => h1 q.1)
  refine ⟨⟨by rw [o 36 _ (by decide)]; exact a1, by rw [o 37 _ (by decide)]; exact a2⟩, fun j hj => by rw [o 36 _ (by decide), o 37 _ (by decide)]; exact b j hj, fun j => by rw [o 39 _ (by decide), o 40 _ (by decide)]; exact c j, fun k hk => ?_, fun j hj => ?_⟩
  · rw [o 67 k (by decide)]
    by_cases c9 : k = Int.toNat m
    · rw [c9]
      exact qs
    · rw [ps 38 _ (fun q => c9 (by have := q.2; omega))]
      exact d k (by omega)
  · rw [ps 38 _ (fun q => hj (by have := q.2; omega))]
    exact e j hj
/-- its FUN and its PATTERN are there -/
def gs_wb (β : Int → Int) (N : Int) (I : gr_I) (J : gr_J) (p : Int) : Prop := (0 ≤ gs_lk I J 3 3 (gs_rn β N p) ∧ gs_lk I J 3 3 (gs_rn β N p) < I 0 3) ∧ 0 ≤ gs_wpt β N I J p ∧ gs_wpt β N I J p < I 17 (Int.toNat (I 0 6))
/-- what wordOf() leaves -/
def gs_Uwd (β : Int → Int) (N : Int) (I : gr_I) (J : gr_J) (p : Int) (Iₚ : gr_I) : Prop :=
  (Iₚ 36 (gs_Wn I) = gs_lk I J 3 3 (gs_rn β N p) ∧ Iₚ 37 (gs_Wn I) = gs_wpt β N I J p ∧ Iₚ 39 (gs_Wn I) = gs_wvl β N I J (gs_stm β N 3 (gs_X β N (gs_X β N p))) ∧ Iₚ 40 (gs_Wn I) = gs_prc β N (gs_wve β N I J (gs_stm β N 3 (gs_X β N (gs_X β N p))))) ∧ gs_w3 β N I (gs_X β N (gs_X β N p)) Iₚ (fun k => Iₚ 38 (3 * gs_Wn I + k)) ∧
  (∀ j, ¬ j = gs_Wn I → (Iₚ 36 j = I 36 j ∧ Iₚ 37 j = I 37 j) ∧ (Iₚ 39 j = I 39 j ∧ Iₚ 40 j = I 40 j)) ∧ (∀ j : Nat, ¬ (3 * gs_Wn I ≤ j ∧ j < 3 * gs_Wn I + 3) → Iₚ 38 j = I 38 j) ∧ gs_wb β N I J p
theorem gs_Uwd_mk {F P m V R : Int} {W a b : Nat} (h : gs_w9 F P W m I I1) (hm : 3 ≤ m) (hW : W = gs_Wn I) (hF : F = gs_lk I J 3 3 (gs_rn β N p)) (hP : P = gs_wpt β N I J p) (w3 : gs_w3 β N I (gs_X β N (gs_X β N p)) I1 (I1 67)) (ha : a = W) (pa : ∀ x j, ¬ (x = 39 ∧ j = a) → I2 x j = I1 x j) (qa : I2 39 a = V) (hV : V = gs_wvl β N I J (gs_stm β N 3 (gs_X β N (gs_X β N p)))) (hb : b = W) (pb : ∀ x j, ¬ (x = 40 ∧ j = b) → I3 x j = I2 x j) (qb : I3 40 b = R) (hR : R = gs_prc β N (gs_wve β N I J (gs_stm β N 3 (gs_X β N (gs_X β N p))))) (wb : gs_wb β N I J p) : gs_Uwd β N I J p I3 := by
  subst ha
  subst hb
  subst hW
  obtain ⟨⟨a1, a2⟩, b, c, d, e⟩ := h
  have o : ∀ x j, ¬ x = 39 → ¬ x = 40 → I3 x j = I1 x j := fun x j h1 h2 => by
    rw [pb x j (fun q => h2 q.1), pa x j (fun q => h1 q.1)]
  have lk : gr_LKs I1 I3 := gr_LKs_fr gr_LKs_rf (fun k => o 51 k (by decide) (by decide)) (o 0 59 (by decide) (by decide))
  refine ⟨⟨by rw [o 36 _ (by decide) (by decide), a1, hF], by rw [o 37 _ (by decide) (by decide), a2, hP], by rw [pb 39 _ (fun q => absurd q.1 (by first | exact gz_ne rfl | decide)), qa, hV], by rw [qb, hR]⟩, gs_w3_kp w3 lk (fun k hk => by rw [o 38 _ (by decide) (by decide)]; exact d k (by omega)), fun j hj => ⟨⟨?_, ?_⟩, ?_, ?_⟩, fun j hj => ?_, wb⟩
  · rw [o 36 _ (by decide) (by decide)]
    exact (b j hj).1
  · rw [o 37 _ (by decide) (by decide)]
    exact (b j hj).2
  · rw [pb 39 _ (fun q => absurd q.1 (by first | exact gz_ne rfl | decide)), pa 39 _ (fun q => hj q.2)]
    exact (c j).1
  · rw [pb 40 _ (fun q => hj q.2), pa 40 _ (fun q => absurd q.1 (by first | exact gz_ne rfl | decide))]
    exact (c j).2
  · rw [o 38 _ (by decide) (by decide)]
    exact e j hj
/-- the rows of WORDS stay -/
def gs_Swd (I Iₚ : gr_I) : Prop := ∀ j, Iₚ 18 j = I 18 j ∧ Iₚ 36 j = I 36 j ∧ Iₚ 37 j = I 37 j ∧ Iₚ 38 j = I 38 j ∧ Iₚ 39 j = I 39 j ∧ Iₚ 40 j = I 40 j
end W9
