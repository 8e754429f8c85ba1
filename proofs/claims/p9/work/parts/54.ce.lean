def gc_isNames (sh : gz_Sh) (ro : Nat → Nat) (A : gc_A) (p n ρ : Nat) : Prop := sh[p]? = some (false, 4, 2) ∧ ro p = ρ ∧ p < 1000000 ∧ A p 0 = some (p + 1) ∧ sh[(p + 1)]? = some (true, 2, n) ∧ ro (p + 1) = 0 ∧ (p + 1) < 1000000 ∧ gc_lo ρ 1 = 0 ∧ gc_hi ρ 1 = ((n : Nat) : Int) ∧ n ≤ 400
def gc_fd (f : Nat → Int64) (w : Int64) : Nat → Int
  | 0 => -1
  | n + 1 => if 0 ≤ gc_fd f w n then gc_fd f w n else if f n = w then (n : Int) else -1
def gc_nf (f : Nat → Int64) (w : Int64) (n : Nat) : Prop := ∀ k, k < n → f k ≠ w
set_option maxHeartbeats 8000000 in
theorem gc_fd_no {f : Nat → Int64} {w : Int64} : ∀ {n : Nat}, gc_nf f w n → gc_fd f w n = -1
  | 0, _ => rfl
  | n + 1, h => by
    have h1 := gc_fd_no (n := n) (fun k hk => h k (by exact gz_m 0 (by omega)))
    unfold gc_fd
    rw [if_neg (by exact gz_m 1 (by omega)), if_neg (h n (by exact gz_m 2 (by omega)))]
theorem gc_fd_at {f : Nat → Int64} {w : Int64} {i : Nat} (h : gc_nf f w i) (hi : f i = w) : ∀ {n : Nat}, i < n → gc_fd f w n = (i : Int)
  | 0, q => by exact gz_m 0 (by omega)
  | n + 1, q => by
    unfold gc_fd
    by_cases hn : i < n
    · have h1 := gc_fd_at h hi hn
      rw [if_pos (by exact gz_m 1 (by omega)), h1]
    · have e : i = n := by exact gz_m 2 (by omega)
      subst e
      have h1 := gc_fd_no h
      rw [if_neg (by exact gz_m 3 (by omega)), if_pos hi]
theorem gc_nf_nx {f : Nat → Int64} {w : Int64} {i : Int} (h : gc_nf f w (Int.toNat i)) (hi : f (Int.toNat i) ≠ w) (h0 : 0 ≤ i) : gc_nf f w (Int.toNat (i + 1)) := fun k hk => by
  by_cases e : k = Int.toNat i
  · rw [e]; exact hi
  · exact h k (by omega)
theorem gc_fd_r0 {f : Nat → Int64} {w : Int64} {i m : Int} (h : gc_nf f w (Int.toNat i)) (hm : m ≤ i) : -1 = gc_fd f w (Int.toNat m) := (gc_fd_no (fun k hk => h k (by omega))).symm
theorem gc_fd_r1 {f : Nat → Int64} {w : Int64} {i m : Int} (h : gc_nf f w (Int.toNat i)) (hi : f (Int.toNat i) = w) (h0 : 0 ≤ i ∧ i < m) : i = gc_fd f w (Int.toNat m) := by
  rw [gc_fd_at h hi (n := Int.toNat m) (by omega)]
  omega
theorem gc_cmp0 {x y : Int64} (h : (lg_cmp x y).toInt = 0) : x = y := by
  unfold lg_cmp at h
  split at h
  · exact absurd h (by decide)
  · split at h
    · assumption
    · exact absurd h (by decide)
theorem gc_cmpn {x y : Int64} (h : ¬ (lg_cmp x y).toInt = 0) : x ≠ y := fun e => by
  subst e
  apply h
  unfold lg_cmp
  rw [if_neg (fun q => by have := Int64.lt_iff_toInt_lt.mp q; omega), if_pos rfl]
  rfl
set_option maxHeartbeats 8000000 in
set_option maxRecDepth 100000 in
theorem d_X4_find {ws0 : List Cond} {tb : String → gz_T} (hws : gc_Ws ws0) (htb : gc_tbs tb) (sh : gz_Sh) (ro : Nat → Nat) (I : gr_I) (J : gr_J) (A : gc_A) (hI : gc_Inv ro I) (p : Nat) (n ρ : Nat) (a1 : Int64) (hp : gc_isNames sh ro A p n ρ)   : ∃ r hₚ, gz_Ev ws0 tb 1 (yX4_find, cX4_find, 4, (some .int)) [.inr (.inr (some p)), .inr (.inl a1)] sh (gc_h sh I J A) r sh hₚ 0 0 ∧ (hₚ = gc_h sh I J A ∧ (∃ z : Int, r = some (.inl z) ∧ (-1) ≤ z ∧ z ≤ 399 ∧ (z < I p 1) ∧ (z = gc_fd (J (p + 1)) a1 (Int.toNat (I p 1))))) := by
  obtain ⟨S_p, R_p, B_p, A_p_0, S_p_1, R_p_1, B_p_1, Q_lo, Q_hi, Q_n⟩ := id hp
  replace R_p := gz_hi R_p
  replace B_p := gz_hi B_p
  replace R_p_1 := gz_hi R_p_1
  replace B_p_1 := gz_hi B_p_1
  have hD : gv_D (gc_E4 ws0 tb 0 (yX4_find, cX4_find, 4, (some .int)) kX4_find) := gq_of oX4_find
  refine gc_ev4 (d := 0) (l := kX4_find) (Po := fun r hₚ => (hₚ = gc_h sh I J A ∧ (∃ z : Int, r = some (.inl z) ∧ (-1) ≤ z ∧ z ≤ 399 ∧ (z < I p 1) ∧ (z = gc_fd (J (p + 1)) a1 (Int.toNat (I p 1)))))) htb rfl (Nat.le_of_ble_eq_true rfl) ?_
  have f1 := gz_hi ((show 0 ≤ I p 1 ∧ I p 1 ≤ ((n : Nat) : Int) from gc_in hI (gz_sh R_p) Q_lo Q_hi))
  have L2 : ∀ (n9 : Nat) (v3_2 : Int), (401 - v3_2).toNat < n9 → ((0 ≤ v3_2 ∧ v3_2 ≤ 400)) → (gc_nf (J (p + 1)) a1 (Int.toNat v3_2)) → gv_X (gc_E4 ws0 tb 0 (yX4_find, cX4_find, 4, (some .int)) kX4_find) (gv_Q cX4_find (some .int) sh (fun r hₚ => (hₚ = gc_h sh I J A ∧ (∃ z : Int, r = some (.inl z) ∧ (-1) ≤ z ∧ z ≤ 399 ∧ (z < I p 1) ∧ (z = gc_fd (J (p + 1)) a1 (Int.toNat (I p 1))))))) (2, [(0, .inr (.inr (some p))), (1, .inr (.inl a1)), (3, .inl v3_2)], [], sh, gc_h sh I J A) := by
    intro n9
    induction n9 with
    | zero => intro v3_2 hn; (/-0-/first | omega | (simp only [gz_hd] at *; omega))
    | succ n9 ih2 =>
      intro v3_2 hn m_2 e0_2
      have hv3_2 := m_2
      refine gv_run 2 true hD (pcₚ := 4) (lvₚ := [(0, .inr (.inr (some p))), (1, .inr (.inl a1)), (3, .inl v3_2)]) (stₚ := [.inr (.inr (some p)), .inl v3_2]) (hₚ := gc_h sh I J A) (C := ((True ∧ True) ∧ True)) rfl ⟨⟨trivial, trivial⟩, trivial⟩ ?_
      refine gv_get hD rfl rfl S_p ⟨by decide, (gz_sh B_p)⟩ (gc_hI S_p rfl) ?_
      show gv_X _ _ (7, [(0, .inr (.inr (some p))), (1, .inr (.inl a1)), (3, .inl v3_2)], [.inl (I p 1), .inl v3_2], sh, gc_h sh I J A)
      refine gv_icmp_ge (t := 29) hD rfl rfl ⟨⟨by (/-1-/first | omega | (simp only [gz_hd] at *; omega)), by (/-2-/first | omega | (simp only [gz_hd] at *; omega))⟩, ⟨by (/-3-/first | (have o1 := gz_sh f1; omega) | (simp only [gz_hd] at *; omega)), by (/-4-/first | (have o1 := gz_sh f1; omega) | (simp only [gz_hd] at *; omega))⟩⟩ (fun c5 => ?_) (fun c5 => ?_)
      · show gv_X _ _ (29, [(0, .inr (.inr (some p))), (1, .inr (.inl a1)), (3, .inl v3_2)], [], sh, gc_h sh I J A)
        refine gv_run 1 true hD (pcₚ := 30) (lvₚ := [(0, .inr (.inr (some p))), (1, .inr (.inl a1)), (3, .inl v3_2)]) (stₚ := [.inl (-1)]) (hₚ := gc_h sh I J A) (C := (True ∧ True)) rfl ⟨trivial, trivial⟩ ?_
        exact gv_iret hD rfl ⟨rfl, ⟨_, rfl, by (/-5-/first | omega | (simp only [gz_hd] at *; omega)), by (/-6-/first | omega | (simp only [gz_hd] at *; omega)), by (/-7-/first | (have o1 := gz_sh f1; omega) | (simp only [gz_hd] at *; omega)), (gc_fd_r0 e0_2 (by (/-8-/first | omega | (simp only [gz_hd] at *; omega))))⟩⟩
      · show gv_X _ _ (10, [(0, .inr (.inr (some p))), (1, .inr (.inl a1)), (3, .inl v3_2)], [], sh, gc_h sh I J A)
        refine gv_run 1 true hD (pcₚ := 11) (lvₚ := [(0, .inr (.inr (some p))), (1, .inr (.inl a1)), (3, .inl v3_2)]) (stₚ := [.inr (.inr (some p))]) (hₚ := gc_h sh I J A) (C := (True ∧ True)) rfl ⟨trivial, trivial⟩ ?_
        refine gv_get hD rfl rfl S_p ⟨by decide, (gz_sh B_p)⟩ (gc_hA S_p rfl A_p_0) ?_
        show gv_X _ _ (14, [(0, .inr (.inr (some p))), (1, .inr (.inl a1)), (3, .inl v3_2)], [.inr (.inr (some (p + 1)))], sh, gc_h sh I J A)
        refine gv_run 1 true hD (pcₚ := 15) (lvₚ := [(0, .inr (.inr (some p))), (1, .inr (.inl a1)), (3, .inl v3_2)]) (stₚ := [.inl v3_2, .inr (.inr (some (p + 1)))]) (hₚ := gc_h sh I J A) (C := (True ∧ True)) rfl ⟨trivial, trivial⟩ ?_
        refine gv_lald hD rfl S_p_1 rfl ⟨by (/-9-/first | omega | (simp only [gz_hd] at *; omega)), (gz_sh B_p_1)⟩ ⟨by (/-10-/first | omega | (simp only [gz_hd] at *; omega)), by (/-11-/first | (have o1 := gz_sh f1; omega) | (simp only [gz_hd] at *; omega))⟩ (gc_jJ S_p_1 rfl) ?_
        show gv_X _ _ (16, [(0, .inr (.inr (some p))), (1, .inr (.inl a1)), (3, .inl v3_2)], [.inr (.inl (J (p + 1) (Int.toNat v3_2)))], sh, gc_h sh I J A)
        have f6 := gz_hi (gw_cmp ((J (p + 1) (Int.toNat v3_2))) (a1))
        refine gv_run 2 true hD (pcₚ := 18) (lvₚ := [(0, .inr (.inr (some p))), (1, .inr (.inl a1)), (3, .inl v3_2)]) (stₚ := [.inl ((lg_cmp ((J (p + 1) (Int.toNat v3_2))) (a1)).toInt)]) (hₚ := gc_h sh I J A) (C := ((True ∧ True) ∧ True)) rfl ⟨⟨trivial, trivial⟩, trivial⟩ ?_
        refine gv_if_ne (t := 23) hD rfl rfl ⟨by (/-12-/first | (have o1 := gz_sh f6; omega) | (simp only [gz_hd] at *; omega)), by (/-13-/first | (have o1 := gz_sh f6; omega) | (simp only [gz_hd] at *; omega))⟩ (fun c7 => ?_) (fun c7 => ?_)
        · show gv_X _ _ (23, [(0, .inr (.inr (some p))), (1, .inr (.inl a1)), (3, .inl v3_2)], [], sh, gc_h sh I J A)
          refine gv_run 2 true hD (pcₚ := 2) (lvₚ := [(3, .inl (v3_2 + 1)), (0, .inr (.inr (some p))), (1, .inr (.inl a1))]) (stₚ := []) (hₚ := gc_h sh I J A) (C := ((True ∧ True) ∧ True)) rfl ⟨⟨trivial, trivial⟩, trivial⟩ ?_
          refine gv_pick [1, 2, 0] rfl ?_
          exact ih2 (v3_2 + 1) (by (/-14-/first | (have o1 := gz_sh f1; omega) | (simp only [gz_hd] at *; omega))) (by (/-15-/first | (and_intros; (omega); (have o1 := gz_sh f1; omega)) | (simp only [gz_hd] at *; omega))) (gc_nf_nx e0_2 (gc_cmpn (x := J (p + 1) (Int.toNat v3_2)) (y := a1) (by (/-16-/first | omega | (simp only [gz_hd] at *; omega)))) (by (/-17-/first | omega | (simp only [gz_hd] at *; omega))))
        · show gv_X _ _ (21, [(0, .inr (.inr (some p))), (1, .inr (.inl a1)), (3, .inl v3_2)], [], sh, gc_h sh I J A)
          refine gv_run 1 true hD (pcₚ := 22) (lvₚ := [(0, .inr (.inr (some p))), (1, .inr (.inl a1)), (3, .inl v3_2)]) (stₚ := [.inl v3_2]) (hₚ := gc_h sh I J A) (C := (True ∧ True)) rfl ⟨trivial, trivial⟩ ?_
          exact gv_iret hD rfl ⟨rfl, ⟨_, rfl, by (/-18-/first | omega | (simp only [gz_hd] at *; omega)), by (/-19-/first | (have o1 := gz_sh f1; omega) | (simp only [gz_hd] at *; omega)), by (/-20-/first | omega | (simp only [gz_hd] at *; omega)), (gc_fd_r1 e0_2 (gc_cmp0 (x := J (p + 1) (Int.toNat v3_2)) (y := a1) (by (/-21-/first | omega | (simp only [gz_hd] at *; omega)))) (by (/-22-/first | (and_intros <;> omega) | (simp only [gz_hd] at *; omega))))⟩⟩
  refine gv_run 2 true hD (pcₚ := 2) (lvₚ := [(3, .inl 0), (0, .inr (.inr (some p))), (1, .inr (.inl a1))]) (stₚ := []) (hₚ := gc_h sh I J A) (C := ((True ∧ True) ∧ True)) rfl ⟨⟨trivial, trivial⟩, trivial⟩ ?_
  refine gv_pick [1, 2, 0] rfl ?_
  exact L2 _ 0 (Nat.lt_succ_self _) (by (/-23-/first | (and_intros <;> omega) | (simp only [gz_hd] at *; omega))) (fun k hk => absurd hk (by (/-24-/first | omega | (simp only [gz_hd] at *; omega))))
