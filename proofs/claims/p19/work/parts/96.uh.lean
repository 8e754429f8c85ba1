/-! tree() on both sides, with its answer: TREES as one machine over TOKENS. -/
theorem gs_T_p {β : Int → Int} {N p : Int} : 1 ≤ gs_T β N p := by
  unfold gs_T
  split
  · omega
  · split
    · omega
    · split
      · omega
      · split
        · split <;> omega
        · split
          · rename_i h
            have := gs_ix h
            omega
          · omega
theorem gs_k_1 {t : Int} : gs_k t = 1 ↔ t = 1 := by
  unfold gs_k
  by_cases c : t = 4
  · rw [if_pos c]
    omega
  · rw [if_neg c]
    by_cases d : 6 ≤ t
    · rw [if_pos d]
      omega
    · rw [if_neg d]
theorem gs_k_0 {t : Int} (h : 1 ≤ t) : gs_k t = 0 ↔ t = 4 := by
  unfold gs_k
  by_cases c : t = 4
  · rw [if_pos c]
    omega
  · rw [if_neg c]
    by_cases d : 6 ≤ t
    · rw [if_pos d]
      omega
    · rw [if_neg d]
      omega
/-- behind a whole TREE, at the TOKEN from q on; the list: what is open, and how many of its arguments are done; k: how it goes on; v: how many FUNS -/
def gt_C (β : Int → Int) (N : Int) (ar : Int → Int) (k : Int → List (Int × Int) → Int) (v : Int) : List (Int × Int) → Int → Int
  | [], q => if gs_T β N q = 4 then v else -1 - gs_A β N q
  | s :: st, q => if s.2 + 1 < ar s.1 then (if gs_T β N q = 44 then k (gs_X β N q) ((s.1, s.2 + 1) :: st) else -1 - gs_A β N q) else (if gs_T β N q = 41 then gt_C β N ar k v st (gs_X β N q) else -1 - gs_A β N q)
def gt_kz (kd : Int → Int) (ag : Int → Int → Int) (f : Int) : List (Int × Int) → Int
  | [] => 0
  | s :: _ => kd f - ag s.1 s.2
/-- n: how many FUNS may still come -/
def gt_M (β : Int → Int) (N : Int) (fd ar kd : Int → Int) (ag : Int → Int → Int) : Nat → Int → List (Int × Int) → Int
  | 0, p, _ => -1 - gs_A β N p
  | n + 1, p, st => if gs_T β N p = 1 ∧ 0 ≤ fd p ∧ gt_kz kd ag (fd p) st = 0 then (if 0 < ar (fd p) then (if gs_T β N (gs_X β N p) = 40 then gt_M β N fd ar kd ag n (gs_X β N (gs_X β N p)) ((fd p, 0) :: st) else -1 - gs_A β N (gs_X β N p)) else gt_C β N ar (fun q s => gt_M β N fd ar kd ag n q s) (60 - (n : Int)) st (gs_X β N p)) else -1 - gs_A β N p
section TL
variable {β : Int → Int} {N : Int} {fd ar kd fd' ar' kd' : Int → Int} {ag ag' : Int → Int → Int} {k k' : Int → List (Int × Int) → Int} {v F f a p q s s' : Int} {st : List (Int × Int)} {n : Nat}
theorem gt_C_n : gt_C β N ar k v [] q = (if gs_T β N q = 4 then v else -1 - gs_A β N q) := rfl
theorem gt_C_c {x : Int × Int} : gt_C β N ar k v (x :: st) q = (if x.2 + 1 < ar x.1 then (if gs_T β N q = 44 then k (gs_X β N q) ((x.1, x.2 + 1) :: st) else -1 - gs_A β N q) else (if gs_T β N q = 41 then gt_C β N ar k v st (gs_X β N q) else -1 - gs_A β N q)) := rfl
theorem gt_M_u : gt_M β N fd ar kd ag (n + 1) p st = (if gs_T β N p = 1 ∧ 0 ≤ fd p ∧ gt_kz kd ag (fd p) st = 0 then (if 0 < ar (fd p) then (if gs_T β N (gs_X β N p) = 40 then gt_M β N fd ar kd ag n (gs_X β N (gs_X β N p)) ((fd p, 0) :: st) else -1 - gs_A β N (gs_X β N p)) else gt_C β N ar (fun q s => gt_M β N fd ar kd ag n q s) (60 - (n : Int)) st (gs_X β N p)) else -1 - gs_A β N p) := rfl
theorem gt_M_n (h : ¬ (gs_T β N p = 1 ∧ 0 ≤ fd p ∧ gt_kz kd ag (fd p) st = 0)) : gt_M β N fd ar kd ag n p st = -1 - gs_A β N p := by
  cases n with
  | zero => rfl
  | succ n => rw [gt_M_u, if_neg h]
theorem gt_M_z (h : s = 60) : gt_M β N fd ar kd ag (Int.toNat (60 - s)) p st = -1 - gs_A β N p := by
  rw [show Int.toNat (60 - s) = 0 from by omega]
  rfl
/-- a FUN f whose first a arguments are done -/
def gt_W (β : Int → Int) (N : Int) (fd ar kd : Int → Int) (ag : Int → Int → Int) (f a s q : Int) (st : List (Int × Int)) : Int := if a = 0 then (if 0 < ar f then (if gs_T β N q = 40 then gt_M β N fd ar kd ag (Int.toNat (60 - s)) (gs_X β N q) ((f, 0) :: st) else -1 - gs_A β N q) else gt_C β N ar (fun q s9 => gt_M β N fd ar kd ag (Int.toNat (60 - s)) q s9) s st q) else gt_C β N ar (fun q s9 => gt_M β N fd ar kd ag (Int.toNat (60 - s)) q s9) s ((f, a - 1) :: st) q
theorem gt_M_y (h1 : gs_T β N p = 1) (h2 : 0 ≤ fd p) (h3 : gt_kz kd ag (fd p) st = 0) (hs : 0 ≤ s ∧ s < 60) (hf : fd p = f) : gt_M β N fd ar kd ag (Int.toNat (60 - s)) p st = gt_W β N fd ar kd ag f 0 (s + 1) (gs_X β N p) st := by
  rw [show Int.toNat (60 - s) = Int.toNat (60 - (s + 1)) + 1 from by omega, gt_M_u, if_pos ⟨h1, h2, h3⟩, hf, show (60 : Int) - ((Int.toNat (60 - (s + 1)) : Nat) : Int) = s + 1 from by omega]
  unfold gt_W
  rw [if_pos rfl]
theorem gt_W_0 (h : a = 0) (hr : ar f = 0) : gt_W β N fd ar kd ag f a s q st = gt_C β N ar (fun q s9 => gt_M β N fd ar kd ag (Int.toNat (60 - s)) q s9) s st q := by
  unfold gt_W
  rw [if_pos h, if_neg (show ¬ 0 < ar f by omega)]
theorem gt_W_e (h : ¬ a = 0) (hr : ar f = a) (hT : gs_T β N q = 41) : gt_W β N fd ar kd ag f a s q st = gt_C β N ar (fun q s9 => gt_M β N fd ar kd ag (Int.toNat (60 - s)) q s9) s st (gs_X β N q) := by
  unfold gt_W
  rw [if_neg h, gt_C_c, if_neg (show ¬ (a - 1 + 1 < ar f) by omega), if_pos hT]
theorem gt_W_x (h : ¬ a = 0) (hr : ar f = a) (hT : ¬ gs_T β N q = 41) : gt_W β N fd ar kd ag f a s q st = -1 - gs_A β N q := by
  unfold gt_W
  rw [if_neg h, gt_C_c, if_neg (show ¬ (a - 1 + 1 < ar f) by omega), if_neg hT]
theorem gt_W_m {c : Int} (hr : a < ar f) (h0 : 0 ≤ a) (hc : (a = 0 ∧ c = 40) ∨ (¬ a = 0 ∧ c = 44)) (hT : gs_T β N q = c) : gt_W β N fd ar kd ag f a s q st = gt_M β N fd ar kd ag (Int.toNat (60 - s)) (gs_X β N q) ((f, a) :: st) := by
  unfold gt_W
  rcases hc with ⟨e, e2⟩ | ⟨e, e2⟩
  · rw [if_pos e, if_pos (show 0 < ar f by omega), if_pos (hT.trans e2), e]
  · rw [if_neg e, gt_C_c, if_pos (show a - 1 + 1 < ar f by omega), if_pos (hT.trans e2), show a - 1 + 1 = a from by omega]
theorem gt_W_f {c : Int} (hr : a < ar f) (h0 : 0 ≤ a) (hc : (a = 0 ∧ c = 40) ∨ (¬ a = 0 ∧ c = 44)) (hT : ¬ gs_T β N q = c) : gt_W β N fd ar kd ag f a s q st = -1 - gs_A β N q := by
  unfold gt_W
  rcases hc with ⟨e, e2⟩ | ⟨e, e2⟩
  · rw [if_pos e, if_pos (show 0 < ar f by omega), if_neg (fun h => hT (h.trans e2.symm))]
  · rw [if_neg e, gt_C_c, if_pos (show a - 1 + 1 < ar f by omega), if_neg (fun h => hT (h.trans e2.symm))]
theorem gt_C_W (h0 : 0 ≤ a) : gt_C β N ar (fun q s9 => gt_M β N fd ar kd ag (Int.toNat (60 - s)) q s9) s ((f, a) :: st) q = gt_W β N fd ar kd ag f (a + 1) s q st := by
  unfold gt_W
  rw [if_neg (show ¬ a + 1 = 0 by omega), show a + 1 - 1 = a from by omega]
/-- which kind is wanted -/
def gt_kk (ag : Int → Int → Int) (c : Int) : List (Int × Int) → Prop
  | [] => c < 0
  | s :: _ => 0 ≤ c ∧ c = ag s.1 s.2
theorem gt_kk_n {c : Int} (h : gt_kk ag c st) (hc : c < 0) : gt_kz kd ag f st = 0 := by
  cases st with
  | nil => rfl
  | cons x st => exact absurd h.1 (by omega)
theorem gt_kk_y {c : Int} (h : gt_kk ag c st) (hc : kd f = c) : gt_kz kd ag f st = 0 := by
  cases st with
  | nil => rfl
  | cons x st =>
    show kd f - ag x.1 x.2 = 0
    have := h.2
    omega
theorem gt_kk_f {c : Int} (h : gt_kk ag c st) (h0 : 0 ≤ c) (hc : ¬ kd f = c) : ¬ gt_kz kd ag f st = 0 := by
  cases st with
  | nil => exact absurd h (by show ¬ c < 0; omega)
  | cons x st =>
    show ¬ kd f - ag x.1 x.2 = 0
    have := h.2
    omega
/-- what a reader of a TREE from p on has done: z = 0: it is whole, the TOKEN from q on is at hand -/
def gt_R (β : Int → Int) (N : Int) (fd ar kd : Int → Int) (ag : Int → Int → Int) (c s p s' q z : Int) : Prop := ∀ st, gt_kk ag c st → (z = 0 → gt_M β N fd ar kd ag (Int.toNat (60 - s)) p st = gt_C β N ar (fun q s9 => gt_M β N fd ar kd ag (Int.toNat (60 - s')) q s9) s' st q) ∧ (z = 1 → gt_M β N fd ar kd ag (Int.toNat (60 - s)) p st = -1 - gs_A β N q)
/-! the same over tables that are alike -/
def gt_ok (F : Int) (ar : Int → Int) (st : List (Int × Int)) : Prop := ∀ x ∈ st, (0 ≤ x.1 ∧ x.1 < F) ∧ (0 ≤ x.2 ∧ x.2 < ar x.1)
theorem gt_ok_c {x : Int × Int} (h : gt_ok F ar st) (h1 : 0 ≤ x.1 ∧ x.1 < F) (h2 : 0 ≤ x.2 ∧ x.2 < ar x.1) : gt_ok F ar (x :: st) := fun y hy => (List.mem_cons.mp hy).elim (fun e => by rw [e]; exact ⟨h1, h2⟩) (fun e => h y e)
theorem gt_C_cg (hk : ∀ q st, gt_ok F ar st → k q st = k' q st) (ha : ∀ f, 0 ≤ f → f < F → ar f = ar' f) : ∀ (st : List (Int × Int)) (q : Int), gt_ok F ar st → gt_C β N ar k v st q = gt_C β N ar' k' v st q
  | [], q, _ => rfl
  | x :: st, q, h => by
    have hx := h x (List.mem_cons.mpr (Or.inl rfl))
    have ht : gt_ok F ar st := fun y hy => h y (List.mem_cons.mpr (Or.inr hy))
    rw [gt_C_c, gt_C_c, ← ha x.1 hx.1.1 hx.1.2, gt_C_cg hk ha st (gs_X β N q) ht]
    by_cases c : x.2 + 1 < ar x.1
    · rw [if_pos c, if_pos c, hk (gs_X β N q) ((x.1, x.2 + 1) :: st) (gt_ok_c ht hx.1 ⟨by show 0 ≤ x.2 + 1; omega, c⟩)]
    · rw [if_neg c, if_neg c]
theorem gt_M_cg (hf : ∀ p, gs_T β N p = 1 → fd p = fd' p ∧ fd p < F) (ha : ∀ f, 0 ≤ f → f < F → ar f = ar' f) (hkd : ∀ f, 0 ≤ f → f < F → kd f = kd' f) (hag : ∀ f a, 0 ≤ f → f < F → 0 ≤ a → a < ar f → ag f a = ag' f a) : ∀ (n : Nat) (p : Int) (st : List (Int × Int)), gt_ok F ar st → gt_M β N fd ar kd ag n p st = gt_M β N fd' ar' kd' ag' n p st
  | 0, _, _, _ => rfl
  | n + 1, p, st, h => by
    by_cases T : gs_T β N p = 1
    · have e := hf p T
      by_cases g : 0 ≤ fd p
      · have z : gt_kz kd ag (fd p) st = gt_kz kd' ag' (fd p) st := by
          cases st with
          | nil => rfl
          | cons x st =>
            have hx := h x (List.mem_cons.mpr (Or.inl rfl))
            show kd (fd p) - ag x.1 x.2 = kd' (fd p) - ag' x.1 x.2
            rw [hkd (fd p) g e.2, hag x.1 x.2 hx.1.1 hx.1.2 hx.2.1 hx.2.2]
        rw [gt_M_u, gt_M_u, ← e.1, ← z, ← ha (fd p) g e.2]
        by_cases c : gs_T β N p = 1 ∧ 0 ≤ fd p ∧ gt_kz kd ag (fd p) st = 0
        · rw [if_pos c, if_pos c]
          by_cases d : 0 < ar (fd p)
          · rw [if_pos d, if_pos d, gt_M_cg hf ha hkd hag n (gs_X β N (gs_X β N p)) ((fd p, 0) :: st) (gt_ok_c h ⟨g, e.2⟩ ⟨Int.le_refl 0, d⟩)]
          · rw [if_neg d, if_neg d]
            exact gt_C_cg (fun q st h => gt_M_cg hf ha hkd hag n q st h) ha st _ h
        · rw [if_neg c, if_neg c]
      · rw [gt_M_n (fun c => g c.2.1), gt_M_n (fun c => g (by rw [e.1]; exact c.2.1))]
    · rw [gt_M_n (fun c => T c.1), gt_M_n (fun c => T c.1)]
/-- what is open, out of two rows -/
def gt_st (I : gr_I) : Nat → List (Int × Int)
  | 0 => []
  | d + 1 => (I 46 d, I 47 d) :: gt_st I d
theorem gt_st_fr {I I' : gr_I} : ∀ {d : Nat}, (∀ k, k < d → I' 46 k = I 46 k) → (∀ k, k < d → I' 47 k = I 47 k) → gt_st I' d = gt_st I d
  | 0, _, _ => rfl
  | d + 1, h1, h2 => by
    show (I' 46 d, I' 47 d) :: gt_st I' d = (I 46 d, I 47 d) :: gt_st I d
    rw [h1 d (by omega), h2 d (by omega), gt_st_fr (fun k hk => h1 k (by omega)) (fun k hk => h2 k (by omega))]
theorem gt_st_s {I : gr_I} {d : Int} (h : 0 < d) : gt_st I (Int.toNat d) = (I 46 (Int.toNat (d - 1)), I 47 (Int.toNat (d - 1))) :: gt_st I (Int.toNat (d - 1)) := by
  rw [show Int.toNat d = Int.toNat (d - 1) + 1 from by omega]
  rfl
theorem gt_C_st {I6 I47 : gr_I} {d : Int} (hd : 0 < d) (h46 : ∀ k, I47 46 k = I6 46 k) (h47 : ∀ k, k < Int.toNat (d - 1) → I47 47 k = I6 47 k) (hs : I47 47 (Int.toNat (d - 1)) = I6 47 (Int.toNat (d - 1)) + 1) : gt_C β N ar k v (gt_st I6 (Int.toNat d)) q = (if I47 47 (Int.toNat (d - 1)) < ar (I47 46 (Int.toNat (d - 1))) then (if gs_T β N q = 44 then k (gs_X β N q) (gt_st I47 (Int.toNat d)) else -1 - gs_A β N q) else (if gs_T β N q = 41 then gt_C β N ar k v (gt_st I47 (Int.toNat (d - 1))) (gs_X β N q) else -1 - gs_A β N q)) := by
  rw [gt_st_s (I := I47) hd, gt_st_fr (I := I6) (I' := I47) (d := Int.toNat (d - 1)) (fun k _ => h46 k) h47, gt_st_s (I := I6) hd, gt_C_c, hs, h46]
end TL
/-- the class's tables of FUNS, and the reference's -/
def gt_cf (β : Int → Int) (N : Int) (I : gr_I) (J : gr_J) (p : Int) : Int := gc_fd (J 5) (gs_M β N p) (Int.toNat (I 4 1))
def gt_ca (I : gr_I) (f : Int) : Int := I 12 (Int.toNat f)
def gt_ck (I : gr_I) (f : Int) : Int := I 11 (Int.toNat f)
def gt_cg (I : gr_I) (f a : Int) : Int := I 13 (Int.toNat (f * 4 + a))
def gt_rf (β : Int → Int) (N : Int) (Ir : gr_I) (Jr : gr_J) (p : Int) : Int := gs_lk Ir Jr 3 3 (gs_rn β N p)
def gt_ra (Ir : gr_I) (f : Int) : Int := Ir 6 (Int.toNat f)
def gt_rk (Ir : gr_I) (f : Int) : Int := Ir 8 (Int.toNat f)
def gt_rg (Ir : gr_I) (f a : Int) : Int := Ir 7 (Int.toNat (4 * f + a))
theorem gc_fd_lt {f : Nat → Int64} {w : Int64} : ∀ n : Nat, gc_fd f w n < (n : Int)
  | 0 => by
    show (-1 : Int) < 0
    omega
  | n + 1 => by
    have h := gc_fd_lt (f := f) (w := w) n
    unfold gc_fd
    split
    · omega
    · split <;> omega
/-- the answer is alike -/
theorem gt_alike {β : Int → Int} {N : Int} {I : gr_I} {J : gr_J} {Ir : gr_I} {Jr : gr_J} (h4 : gs_GN 4 3 3 I J Ir Jr) (hr : gs_AR Ir I) (hk : gs_KA Ir I) (h0 : 0 ≤ I 4 1) : gt_M β N (gt_cf β N I J) (gt_ca I) (gt_ck I) (gt_cg I) 60 0 [] = gt_M β N (gt_rf β N Ir Jr) (gt_ra Ir) (gt_rk Ir) (gt_rg Ir) 60 0 [] := by
  refine gt_M_cg (F := I 4 1) (fun p hT => ⟨gs_NA_lk h4.2 h4.1 hT, ?_⟩) (fun f a b => hr f a b) (fun f a b => (hk f a b).1) (fun f a b c d e => (hk f b c).2 a d e) 60 0 [] (fun x hx => absurd hx (List.not_mem_nil))
  have := gc_fd_lt (f := J 5) (w := gs_M β N p) (Int.toNat (I 4 1))
  show gc_fd (J 5) (gs_M β N p) (Int.toNat (I 4 1)) < I 4 1
  omega
/-- the reference's tables of FUNS are those of Ir Jr -/
def gt_Tb (I : gr_I) (J : gr_J) (Ir : gr_I) (Jr : gr_J) : Prop := I 0 3 = Ir 0 3 ∧ (∀ k, J 3 k = Jr 3 k) ∧ (∀ k, I 6 k = Ir 6 k) ∧ (∀ k, I 7 k = Ir 7 k) ∧ (∀ k, I 8 k = Ir 8 k)
theorem gt_Tb_fr {I I' : gr_I} {J J' : gr_J} {Ir : gr_I} {Jr : gr_J} {fs as : List Nat} (h : gt_Tb I J Ir Jr) (F : gr_fr fs as I I') (G : gr_fj fs as J J') (h1 : gr_in fs as 0 3 = false) (h3 : ∀ k, gr_in fs as 3 k = false) (h6 : ∀ k, gr_in fs as 6 k = false) (h7 : ∀ k, gr_in fs as 7 k = false) (h8 : ∀ k, gr_in fs as 8 k = false) : gt_Tb I' J' Ir Jr := ⟨(F 0 3 h1).trans h.1, fun k => (G 3 k (h3 k)).trans (h.2.1 k), fun k => (F 6 k (h6 k)).trans (h.2.2.1 k), fun k => (F 7 k (h7 k)).trans (h.2.2.2.1 k), fun k => (F 8 k (h8 k)).trans (h.2.2.2.2 k)⟩
def gt_Po (β : Int → Int) (N9 : Int) (Ir : gr_I) (Jr : gr_J) (c s p : Int) (I' : gr_I) (J' : gr_J) (z : Int) : Prop := ∃ q, (gr_ATp β N9 q I' J' ∧ 0 ≤ q) ∧ gt_R β N9 (gt_rf β N9 Ir Jr) (gt_ra Ir) (gt_rk Ir) (gt_rg Ir) c s p (I' 0 188) q z
theorem gt_Po_1 {β : Int → Int} {N9 c s p q : Int} {Ir : gr_I} {Jr : gr_J} {I' : gr_I} {J' : gr_J} (h : gr_ATp β N9 q I' J') (h0 : 0 ≤ q) (hm : ∀ st, gt_kk (gt_rg Ir) c st → gt_M β N9 (gt_rf β N9 Ir Jr) (gt_ra Ir) (gt_rk Ir) (gt_rg Ir) (Int.toNat (60 - s)) p st = -1 - gs_A β N9 q) : gt_Po β N9 Ir Jr c s p I' J' 1 := ⟨q, ⟨h, h0⟩, fun st hk => ⟨fun e => absurd e (by decide), fun _ => hm st hk⟩⟩
theorem gt_Po_0 {β : Int → Int} {N9 c s p q : Int} {Ir : gr_I} {Jr : gr_J} {I' : gr_I} {J' : gr_J} (h : gr_ATp β N9 q I' J') (h0 : 0 ≤ q) (hm : ∀ st, gt_kk (gt_rg Ir) c st → gt_M β N9 (gt_rf β N9 Ir Jr) (gt_ra Ir) (gt_rk Ir) (gt_rg Ir) (Int.toNat (60 - s)) p st = gt_C β N9 (gt_ra Ir) (fun q s9 => gt_M β N9 (gt_rf β N9 Ir Jr) (gt_ra Ir) (gt_rk Ir) (gt_rg Ir) (Int.toNat (60 - I' 0 188)) q s9) (I' 0 188) st q) : gt_Po β N9 Ir Jr c s p I' J' 0 := ⟨q, ⟨h, h0⟩, fun st hk => ⟨fun _ => hm st hk, fun e => absurd e (by decide)⟩⟩
theorem gt_find {β : Int → Int} {N9 p z : Int} {I : gr_I} {J : gr_J} {Ir : gr_I} {Jr : gr_J} (hT : gt_Tb I J Ir Jr) (hw : J 0 75 = gs_rn β N9 p) (hz : z = gs_find (fun i => J 3 (Int.toNat (0 + i))) (I 0 3) (J 0 75)) : z = gt_rf β N9 Ir Jr p := by
  rw [hz, hw, hT.1, show (fun i : Int => J 3 (Int.toNat (0 + i))) = (fun i => Jr 3 (Int.toNat (0 + i))) from funext fun i => hT.2.1 _]
  rfl
set_option maxHeartbeats 4000000 in
set_option maxRecDepth 100000 in
theorem r_noTree_p {ws0 : List Cond} {tb : String → gz_T} (hws : ∀ w ∈ gr_ws, w ∈ ws0) (htb : tb RX13 = gr_T) (ext : gz_Sh) (β : Int → Int) (N9 : Int) (Ir : gr_I) (Jr : gr_J) : ∀ (nr : Nat) (I : gr_I) (J : gr_J) (hI : gr_Inv I) (a1 : Int) (ha1 : (-1) ≤ a1 ∧ a1 ≤ 31) (x0 : I 0 71 = 5 ∨ I 0 73 ≤ I 0 69) (x1 : I 0 72 ≤ I 0 69) (x2 : I 0 71 = 0 ∨ (I 0 72 < I 0 73 ∧ I 0 72 < I 0 69)) (x3 : I 0 71 = 3 → 2 ≤ I 0 73 - I 0 72 ∧ I 0 73 - I 0 72 ≤ 14) (x4 : I 0 72 ≤ I 0 73) (x5 : I 0 188 ≤ 60) (p9 : Int) (y0 : gr_ATp β N9 p9 I J) (y1 : 0 ≤ p9) (y2 : gt_Tb I J Ir Jr) (_ : (61 - I 0 188).toNat < nr), ∃ r h', gz_Ev ws0 tb (10 + nr) (yX13_noTree, cX13_noTree, 4, (some .boolean)) [.inr (.inr (some 0)), .inl a1] (gr_sh ++ ext) (gr_h I J) r (gr_sh ++ ext) h' 0 0 ∧ (∃ (I' : gr_I) (J' : gr_J), h' = gr_h I' J' ∧ gr_Inv I' ∧ gr_fr [71, 72, 73, 74, 75, 188] [113] I I' ∧ gr_fj [71, 72, 73, 74, 75, 188] [113] J J' ∧ (∃ z : Int, r = some (.inl z) ∧ 0 ≤ z ∧ z ≤ 1 ∧ (I' 0 71 = 5 ∨ I' 0 73 ≤ I' 0 69) ∧ (I' 0 72 ≤ I' 0 69) ∧ (I' 0 71 = 0 ∨ (I' 0 72 < I' 0 73 ∧ I' 0 72 < I' 0 69)) ∧ (I' 0 71 = 3 → 2 ≤ I' 0 73 - I' 0 72 ∧ I' 0 73 - I' 0 72 ≤ 14) ∧ (I' 0 72 ≤ I' 0 73) ∧ (I' 0 69 = I 0 69) ∧ (I 0 73 ≤ I' 0 73) ∧ (I 0 72 ≤ I' 0 72) ∧ (I' 0 188 ≤ 60) ∧ (I 0 188 ≤ I' 0 188) ∧ (gr_TB (I 0 188) I I') ∧ (gr_o (z = 1) (gr_SG 1 (I 0 188) (I' 0 188) I')) ∧ (gt_Po β N9 Ir Jr a1 (I 0 188) p9 I' J' z))) := by
  intro nr
  induction nr with
  | zero => intro I J hI a1 ha1 x0 x1 x2 x3 x4 x5 p9 y0 y1 y2 hnr; omega
  | succ nr ihR =>
  intro I J hI a1 ha1 x0 x1 x2 x3 x4 x5 p9 y0 y1 y2 hnr
  have FI : gr_fr [71, 72, 73, 74, 75, 188] [113] I I := fun _ _ _ => rfl
  have FJ : gr_fj [71, 72, 73, 74, 75, 188] [113] J J := fun _ _ _ => rfl
  have hD : gv_D (gr_E ws0 tb (10 + nr) (yX13_noTree, cX13_noTree, 4, (some .boolean)) kX13_noTree) := gq_ok oX13_noTree
  refine gr_ev (d := (10 + nr)) (l := kX13_noTree) (Po := fun r h' => (∃ (I' : gr_I) (J' : gr_J), h' = gr_h I' J' ∧ gr_Inv I' ∧ gr_fr [71, 72, 73, 74, 75, 188] [113] I I' ∧ gr_fj [71, 72, 73, 74, 75, 188] [113] J J' ∧ (∃ z : Int, r = some (.inl z) ∧ 0 ≤ z ∧ z ≤ 1 ∧ (I' 0 71 = 5 ∨ I' 0 73 ≤ I' 0 69) ∧ (I' 0 72 ≤ I' 0 69) ∧ (I' 0 71 = 0 ∨ (I' 0 72 < I' 0 73 ∧ I' 0 72 < I' 0 69)) ∧ (I' 0 71 = 3 → 2 ≤ I' 0 73 - I' 0 72 ∧ I' 0 73 - I' 0 72 ≤ 14) ∧ (I' 0 72 ≤ I' 0 73) ∧ (I' 0 69 = I 0 69) ∧ (I 0 73 ≤ I' 0 73) ∧ (I 0 72 ≤ I' 0 72) ∧ (I' 0 188 ≤ 60) ∧ (I 0 188 ≤ I' 0 188) ∧ (gr_TB (I 0 188) I I') ∧ (gr_o (z = 1) (gr_SG 1 (I 0 188) (I' 0 188) I')) ∧ (gt_Po β N9 Ir Jr a1 (I 0 188) p9 I' J' z)))) htb rfl (Nat.le_of_ble_eq_true rfl) ?_
  have f1 := (show 0 ≤ I 0 71 ∧ I 0 71 ≤ 5 from (hI 0 71).1)
  have f2 := (show 0 ≤ I 0 72 ∧ I 0 72 ≤ 1000 from (hI 0 72).1)
  have f3 := (show 0 ≤ I 0 73 ∧ I 0 73 ≤ 1001 from (hI 0 73).1)
  have f4 := (show 0 ≤ I 0 69 ∧ I 0 69 ≤ 1000 from (hI 0 69).1)
  have f5 := (show 0 ≤ I 0 188 ∧ I 0 188 ≤ 2000 from (hI 0 188).1)
  have yK : I 0 71 = gs_k (gs_T β N9 p9) := y0.2.1
  have yX : I 0 73 = gs_X β N9 p9 := y0.2.2.2.1
  have yR : J 0 75 = gs_rn β N9 p9 := y0.2.2.2.2.2
  have L54 : ((I 0 71 = 5 ∨ I 0 73 ≤ I 0 69) ∧ (I 0 72 ≤ I 0 69) ∧ (I 0 71 = 0 ∨ (I 0 72 < I 0 73 ∧ I 0 72 < I 0 69)) ∧ (I 0 71 = 3 → 2 ≤ I 0 73 - I 0 72 ∧ I 0 73 - I 0 72 ≤ 14) ∧ (I 0 72 ≤ I 0 73) ∧ (I 0 69 = I 0 69) ∧ (I 0 73 ≤ I 0 73) ∧ (I 0 72 ≤ I 0 72)) → (∀ st, gt_kk (gt_rg Ir) a1 st → gt_M β N9 (gt_rf β N9 Ir Jr) (gt_ra Ir) (gt_rk Ir) (gt_rg Ir) (Int.toNat (60 - I 0 188)) p9 st = -1 - gs_A β N9 p9) → gv_X (gr_E ws0 tb (10 + nr) (yX13_noTree, cX13_noTree, 4, (some .boolean)) kX13_noTree) (gv_Q cX13_noTree (some .boolean) (gr_sh ++ ext) (fun r h' => (∃ (I' : gr_I) (J' : gr_J), h' = gr_h I' J' ∧ gr_Inv I' ∧ gr_fr [71, 72, 73, 74, 75, 188] [113] I I' ∧ gr_fj [71, 72, 73, 74, 75, 188] [113] J J' ∧ (∃ z : Int, r = some (.inl z) ∧ 0 ≤ z ∧ z ≤ 1 ∧ (I' 0 71 = 5 ∨ I' 0 73 ≤ I' 0 69) ∧ (I' 0 72 ≤ I' 0 69) ∧ (I' 0 71 = 0 ∨ (I' 0 72 < I' 0 73 ∧ I' 0 72 < I' 0 69)) ∧ (I' 0 71 = 3 → 2 ≤ I' 0 73 - I' 0 72 ∧ I' 0 73 - I' 0 72 ≤ 14) ∧ (I' 0 72 ≤ I' 0 73) ∧ (I' 0 69 = I 0 69) ∧ (I 0 73 ≤ I' 0 73) ∧ (I 0 72 ≤ I' 0 72) ∧ (I' 0 188 ≤ 60) ∧ (I 0 188 ≤ I' 0 188) ∧ (gr_TB (I 0 188) I I') ∧ (gr_o (z = 1) (gr_SG 1 (I 0 188) (I' 0 188) I')) ∧ (gt_Po β N9 Ir Jr a1 (I 0 188) p9 I' J' z))))) (54, [], [], gr_sh ++ ext, gr_h I J) := by
    intro m_6 b_6
    obtain ⟨e0_6, e1_6, e2_6, e3_6, e4_6, e5_6, e6_6, e7_6⟩ := m_6
    have f7 := (show 0 ≤ I 0 71 ∧ I 0 71 ≤ 5 from (hI 0 71).1)
    have f8 := (show 0 ≤ I 0 72 ∧ I 0 72 ≤ 1000 from (hI 0 72).1)
    have f9 := (show 0 ≤ I 0 73 ∧ I 0 73 ≤ 1001 from (hI 0 73).1)
    have f10 := (show 0 ≤ I 0 69 ∧ I 0 69 ≤ 1000 from (hI 0 69).1)
    have f11 := (show 0 ≤ I 0 188 ∧ I 0 188 ≤ 2000 from (hI 0 188).1)
    refine gv_run 1 true hD (pc' := 55) (lv' := []) (st' := [.inl 1]) (h' := gr_h I J) (C := (True ∧ True)) rfl ⟨trivial, trivial⟩ ?_
    exact gv_zret hD rfl (by omega) ⟨I, J, rfl, hI, FI, FJ, ⟨_, rfl, by omega, by omega, by omega, by omega, by omega, by omega, by omega, by omega, by omega, by omega, by omega, by omega, (fun j hj => rfl), (gr_o_a (by omega)), gt_Po_1 y0 y1 b_6⟩⟩
  have L45 : ∀ (v2_12 : Int), ((0 ≤ v2_12 ∧ v2_12 ≤ 95) ∧ (I 0 71 = 1) ∧ (v2_12 < I 0 3) ∧ (I 0 71 = 5 ∨ I 0 73 ≤ I 0 69) ∧ (I 0 72 ≤ I 0 69) ∧ (I 0 71 = 0 ∨ (I 0 72 < I 0 73 ∧ I 0 72 < I 0 69)) ∧ (I 0 71 = 3 → 2 ≤ I 0 73 - I 0 72 ∧ I 0 73 - I 0 72 ≤ 14) ∧ (I 0 72 ≤ I 0 73) ∧ (I 0 69 = I 0 69) ∧ (I 0 73 ≤ I 0 73) ∧ (I 0 72 ≤ I 0 72)) → ((v2_12 = gt_rf β N9 Ir Jr p9 ∧ gs_T β N9 p9 = 1) ∧ ∀ st, gt_kk (gt_rg Ir) a1 st → gt_kz (gt_rk Ir) (gt_rg Ir) v2_12 st = 0) → gv_X (gr_E ws0 tb (10 + nr) (yX13_noTree, cX13_noTree, 4, (some .boolean)) kX13_noTree) (gv_Q cX13_noTree (some .boolean) (gr_sh ++ ext) (fun r h' => (∃ (I' : gr_I) (J' : gr_J), h' = gr_h I' J' ∧ gr_Inv I' ∧ gr_fr [71, 72, 73, 74, 75, 188] [113] I I' ∧ gr_fj [71, 72, 73, 74, 75, 188] [113] J J' ∧ (∃ z : Int, r = some (.inl z) ∧ 0 ≤ z ∧ z ≤ 1 ∧ (I' 0 71 = 5 ∨ I' 0 73 ≤ I' 0 69) ∧ (I' 0 72 ≤ I' 0 69) ∧ (I' 0 71 = 0 ∨ (I' 0 72 < I' 0 73 ∧ I' 0 72 < I' 0 69)) ∧ (I' 0 71 = 3 → 2 ≤ I' 0 73 - I' 0 72 ∧ I' 0 73 - I' 0 72 ≤ 14) ∧ (I' 0 72 ≤ I' 0 73) ∧ (I' 0 69 = I 0 69) ∧ (I 0 73 ≤ I' 0 73) ∧ (I 0 72 ≤ I' 0 72) ∧ (I' 0 188 ≤ 60) ∧ (I 0 188 ≤ I' 0 188) ∧ (gr_TB (I 0 188) I I') ∧ (gr_o (z = 1) (gr_SG 1 (I 0 188) (I' 0 188) I')) ∧ (gt_Po β N9 Ir Jr a1 (I 0 188) p9 I' J' z))))) (45, [(0, .inr (.inr (some 0))), (2, .inl v2_12)], [], gr_sh ++ ext, gr_h I J) := by
    intro v2_12 m_12 c_12
    obtain ⟨hv2_12, e0_12, e1_12, e2_12, e3_12, e4_12, e5_12, e6_12, e7_12, e8_12, e9_12⟩ := m_12
    have f13 := (show 0 ≤ I 0 71 ∧ I 0 71 ≤ 5 from (hI 0 71).1)
    have f14 := (show 0 ≤ I 0 72 ∧ I 0 72 ≤ 1000 from (hI 0 72).1)
    have f15 := (show 0 ≤ I 0 73 ∧ I 0 73 ≤ 1001 from (hI 0 73).1)
    have f16 := (show 0 ≤ I 0 69 ∧ I 0 69 ≤ 1000 from (hI 0 69).1)
    have f17 := (show 0 ≤ I 0 188 ∧ I 0 188 ≤ 2000 from (hI 0 188).1)
    have L79 : ∀ (n : Nat) (I18 : gr_I) (J19 : gr_J) (v3_20 : Int), (5 - v3_20).toNat < n → gr_Inv I18 → gr_fr [71, 72, 73, 74, 75, 188] [113] I I18 → gr_fj [71, 72, 73, 74, 75, 188] [113] J J19 → ((0 ≤ v2_12 ∧ v2_12 ≤ 95) ∧ (0 ≤ v3_20 ∧ v3_20 ≤ 4) ∧ (I18 113 (Int.toNat (I 0 188)) = v2_12) ∧ (v2_12 < I 0 3) ∧ (I18 0 188 ≤ 60) ∧ (I 0 188 < I18 0 188) ∧ (v3_20 ≤ I 6 (Int.toNat v2_12)) ∧ (I18 0 71 = 5 ∨ I18 0 73 ≤ I18 0 69) ∧ (I18 0 72 ≤ I18 0 69) ∧ (I18 0 71 = 0 ∨ (I18 0 72 < I18 0 73 ∧ I18 0 72 < I18 0 69)) ∧ (I18 0 71 = 3 → 2 ≤ I18 0 73 - I18 0 72 ∧ I18 0 73 - I18 0 72 ≤ 14) ∧ (I18 0 72 ≤ I18 0 73) ∧ (I18 0 69 = I 0 69) ∧ (I 0 73 ≤ I18 0 73) ∧ (I 0 72 ≤ I18 0 72)) → (gr_TB (I 0 188) I I18) → (gr_SG v3_20 (I 0 188 + 1) (I18 0 188) I18) → (∃ q9, (gr_ATp β N9 q9 I18 J19 ∧ 0 ≤ q9) ∧ ∀ st, gt_kk (gt_rg Ir) a1 st → gt_M β N9 (gt_rf β N9 Ir Jr) (gt_ra Ir) (gt_rk Ir) (gt_rg Ir) (Int.toNat (60 - I 0 188)) p9 st = gt_W β N9 (gt_rf β N9 Ir Jr) (gt_ra Ir) (gt_rk Ir) (gt_rg Ir) v2_12 v3_20 (I18 0 188) q9 st) → gv_X (gr_E ws0 tb (10 + nr) (yX13_noTree, cX13_noTree, 4, (some .boolean)) kX13_noTree) (gv_Q cX13_noTree (some .boolean) (gr_sh ++ ext) (fun r h' => (∃ (I' : gr_I) (J' : gr_J), h' = gr_h I' J' ∧ gr_Inv I' ∧ gr_fr [71, 72, 73, 74, 75, 188] [113] I I' ∧ gr_fj [71, 72, 73, 74, 75, 188] [113] J J' ∧ (∃ z : Int, r = some (.inl z) ∧ 0 ≤ z ∧ z ≤ 1 ∧ (I' 0 71 = 5 ∨ I' 0 73 ≤ I' 0 69) ∧ (I' 0 72 ≤ I' 0 69) ∧ (I' 0 71 = 0 ∨ (I' 0 72 < I' 0 73 ∧ I' 0 72 < I' 0 69)) ∧ (I' 0 71 = 3 → 2 ≤ I' 0 73 - I' 0 72 ∧ I' 0 73 - I' 0 72 ≤ 14) ∧ (I' 0 72 ≤ I' 0 73) ∧ (I' 0 69 = I 0 69) ∧ (I 0 73 ≤ I' 0 73) ∧ (I 0 72 ≤ I' 0 72) ∧ (I' 0 188 ≤ 60) ∧ (I 0 188 ≤ I' 0 188) ∧ (gr_TB (I 0 188) I I') ∧ (gr_o (z = 1) (gr_SG 1 (I 0 188) (I' 0 188) I')) ∧ (gt_Po β N9 Ir Jr a1 (I 0 188) p9 I' J' z))))) (79, [(0, .inr (.inr (some 0))), (2, .inl v2_12), (3, .inl v3_20)], [], gr_sh ++ ext, gr_h I18 J19) := by
      intro n
      induction n with
      | zero => intro I18 J19 v3_20 hn; omega
      | succ n ih79 =>
        intro I18 J19 v3_20 hn hI18 FI18 FJ19 m_20 e0_20 e1_20 k_20
        clear hv2_12 e0_12 e1_12 e2_12 e3_12 e4_12 e5_12 e6_12 e7_12 e8_12 e9_12 f13 f14 f15 f16 f17
        obtain ⟨hv2_12_20, hv3_20, e2_20, e3_20, e4_20, e5_20, e6_20, e7_20, e8_20, e9_20, e10_20, e11_20, e12_20, e13_20, e14_20⟩ := m_20
        have f21 := (show 0 ≤ I18 0 71 ∧ I18 0 71 ≤ 5 from (hI18 0 71).1)
        have f22 := (show 0 ≤ I18 0 72 ∧ I18 0 72 ≤ 1000 from (hI18 0 72).1)
        have f23 := (show 0 ≤ I18 0 73 ∧ I18 0 73 ≤ 1001 from (hI18 0 73).1)
        have f24 := (show 0 ≤ I18 0 69 ∧ I18 0 69 ≤ 1000 from (hI18 0 69).1)
        have f25 := (show 0 ≤ I18 0 188 ∧ I18 0 188 ≤ 2000 from (hI18 0 188).1)
        obtain ⟨q9, ⟨aT, aq⟩, kw⟩ := k_20
        have aX : I18 0 73 = gs_X β N9 q9 := aT.2.2.2.1
        have yA : I 6 (Int.toNat v2_12) = gt_ra Ir v2_12 := y2.2.2.1 _
        have tB : gt_Tb I18 J19 Ir Jr := gt_Tb_fr y2 FI18 FJ19 rfl (fun _ => rfl) (fun _ => rfl) (fun _ => rfl) (fun _ => rfl)
        have L101 : ∀ (s1_26 : Int), ((0 ≤ v2_12 ∧ v2_12 ≤ 95) ∧ (0 ≤ v3_20 ∧ v3_20 ≤ 3) ∧ (40 ≤ s1_26 ∧ s1_26 ≤ 44) ∧ (I18 113 (Int.toNat (I 0 188)) = v2_12) ∧ (v2_12 < I 0 3) ∧ (I18 0 188 ≤ 60) ∧ (I 0 188 < I18 0 188) ∧ (v3_20 ≤ I 6 (Int.toNat v2_12)) ∧ (v3_20 < I 6 (Int.toNat v2_12)) ∧ (I18 0 71 = 5 ∨ I18 0 73 ≤ I18 0 69) ∧ (I18 0 72 ≤ I18 0 69) ∧ (I18 0 71 = 0 ∨ (I18 0 72 < I18 0 73 ∧ I18 0 72 < I18 0 69)) ∧ (I18 0 71 = 3 → 2 ≤ I18 0 73 - I18 0 72 ∧ I18 0 73 - I18 0 72 ≤ 14) ∧ (I18 0 72 ≤ I18 0 73) ∧ (I18 0 69 = I 0 69) ∧ (I 0 73 ≤ I18 0 73) ∧ (I 0 72 ≤ I18 0 72)) → (gr_TB (I 0 188) I I18) → (gr_SG v3_20 (I 0 188 + 1) (I18 0 188) I18) → ((v3_20 = 0 ∧ s1_26 = 40) ∨ (¬ v3_20 = 0 ∧ s1_26 = 44)) → gv_X (gr_E ws0 tb (10 + nr) (yX13_noTree, cX13_noTree, 4, (some .boolean)) kX13_noTree) (gv_Q cX13_noTree (some .boolean) (gr_sh ++ ext) (fun r h' => (∃ (I' : gr_I) (J' : gr_J), h' = gr_h I' J' ∧ gr_Inv I' ∧ gr_fr [71, 72, 73, 74, 75, 188] [113] I I' ∧ gr_fj [71, 72, 73, 74, 75, 188] [113] J J' ∧ (∃ z : Int, r = some (.inl z) ∧ 0 ≤ z ∧ z ≤ 1 ∧ (I' 0 71 = 5 ∨ I' 0 73 ≤ I' 0 69) ∧ (I' 0 72 ≤ I' 0 69) ∧ (I' 0 71 = 0 ∨ (I' 0 72 < I' 0 73 ∧ I' 0 72 < I' 0 69)) ∧ (I' 0 71 = 3 → 2 ≤ I' 0 73 - I' 0 72 ∧ I' 0 73 - I' 0 72 ≤ 14) ∧ (I' 0 72 ≤ I' 0 73) ∧ (I' 0 69 = I 0 69) ∧ (I 0 73 ≤ I' 0 73) ∧ (I 0 72 ≤ I' 0 72) ∧ (I' 0 188 ≤ 60) ∧ (I 0 188 ≤ I' 0 188) ∧ (gr_TB (I 0 188) I I') ∧ (gr_o (z = 1) (gr_SG 1 (I 0 188) (I' 0 188) I')) ∧ (gt_Po β N9 Ir Jr a1 (I 0 188) p9 I' J' z))))) (101, [(0, .inr (.inr (some 0))), (2, .inl v2_12), (3, .inl v3_20)], [.inl s1_26, .inr (.inr (some 0))], gr_sh ++ ext, gr_h I18 J19) := by
          intro s1_26 m_26 e0_26 e1_26 o_26
          obtain ⟨hv2_12_26, hv3_20_26, hs1_26, e2_26, e3_26, e4_26, e5_26, e6_26, e7_26, e8_26, e9_26, e10_26, e11_26, e12_26, e13_26, e14_26, e15_26⟩ := m_26
          have f27 := (show 0 ≤ I18 0 71 ∧ I18 0 71 ≤ 5 from (hI18 0 71).1)
          have f28 := (show 0 ≤ I18 0 72 ∧ I18 0 72 ≤ 1000 from (hI18 0 72).1)
          have f29 := (show 0 ≤ I18 0 73 ∧ I18 0 73 ≤ 1001 from (hI18 0 73).1)
          have f30 := (show 0 ≤ I18 0 69 ∧ I18 0 69 ≤ 1000 from (hI18 0 69).1)
          have f31 := (show 0 ≤ I18 0 188 ∧ I18 0 188 ≤ 2000 from (hI18 0 188).1)
          obtain ⟨r32, h32, E32, P32⟩ := r_sign_p (ws0 := ws0) (tb := tb) hws htb ext β N9 q9 I18 J19 hI18 s1_26 ⟨by omega, by omega⟩ (by omega) aT aq
          obtain ⟨rfl, ⟨z32, rfl, q32⟩⟩ := P32
          refine gv_callV hD rfl (As := [.inl s1_26]) (st := []) rfl (by decide) rfl rfl (gr_lV hws rfl) (Nat.le_of_ble_eq_true rfl) (gz_Ev_mono (d := 1) (by omega) E32) ?_
          show gv_X _ _ (104, [(0, .inr (.inr (some 0))), (2, .inl v2_12), (3, .inl v3_20)], [.inl z32], gr_sh ++ ext, gr_h I18 J19)
          refine gv_if_ne (t := 109) hD rfl rfl ⟨by omega, by omega⟩ (fun c33 => ?_) (fun c33 => ?_)
          · refine gv_run 1 true hD (pc' := 110) (lv' := [(0, .inr (.inr (some 0))), (2, .inl v2_12), (3, .inl v3_20)]) (st' := [.inr (.inr (some 0))]) (h' := gr_h I18 J19) (C := (True ∧ True)) rfl ⟨trivial, trivial⟩ ?_
            obtain ⟨r34, h34, E34, P34⟩ := r_next_p (ws0 := ws0) (tb := tb) hws htb ext β N9 I18 J19 hI18 (by omega) aT.1.1 aT.1.2
            obtain ⟨I35, J36, rfl, hI35, g34, k34, ⟨rfl, q34⟩⟩ := P34
            have aT1 : gr_ATp β N9 (gs_X β N9 q9) I35 J36 := by
              have h9 := q34.2.2.2.2.2
              rw [show I18 0 73 = gs_X β N9 q9 from by omega] at h9
              exact h9
            have FI35 := gr_frt FI18 g34 rfl rfl
            have FJ36 := gr_fjt FJ19 k34 rfl rfl
            have t37 := g34 0 69 rfl
            have t38 := g34 0 188 rfl
            have t39 := g34 113 (Int.toNat (I 0 188)) rfl
            have f40 := (show 0 ≤ I35 0 71 ∧ I35 0 71 ≤ 5 from (hI35 0 71).1)
            have f41 := (show 0 ≤ I35 0 72 ∧ I35 0 72 ≤ 1000 from (hI35 0 72).1)
            have f42 := (show 0 ≤ I35 0 73 ∧ I35 0 73 ≤ 1001 from (hI35 0 73).1)
            have f43 := (show 0 ≤ I35 0 69 ∧ I35 0 69 ≤ 1000 from (hI35 0 69).1)
            have f44 := (show 0 ≤ I35 0 188 ∧ I35 0 188 ≤ 2000 from (hI35 0 188).1)
            refine gv_callV hD rfl (As := []) (st := []) rfl (by decide) rfl rfl (gr_lV hws rfl) (Nat.le_of_ble_eq_true rfl) (gz_Ev_mono (d := 10) (by omega) E34) ?_
            show gv_X _ _ (113, [(0, .inr (.inr (some 0))), (2, .inl v2_12), (3, .inl v3_20)], [], gr_sh ++ ext, gr_h I35 J36)
            refine gv_run 7 true hD (pc' := 122) (lv' := [(0, .inr (.inr (some 0))), (2, .inl v2_12), (3, .inl v3_20)]) (st' := [.inl v3_20, .inl (4 * v2_12), .inr (.inr (some 7)), .inr (.inr (some 0))]) (h' := gr_h I35 J36) (C := (((((((True ∧ True) ∧ True) ∧ True) ∧ True) ∧ True) ∧ True) ∧ True)) rfl ⟨⟨⟨⟨⟨⟨⟨trivial, trivial⟩, trivial⟩, trivial⟩, trivial⟩, trivial⟩, trivial⟩, trivial⟩ ?_
            have f45 := (show 0 ≤ I35 7 (Int.toNat (((4 * v2_12) + v3_20))) ∧ I35 7 (Int.toNat (((4 * v2_12) + v3_20))) ≤ 31 from (hI35 7 (Int.toNat (((4 * v2_12) + v3_20)))).1)
            refine gv_run 2 true hD (pc' := 124) (lv' := [(0, .inr (.inr (some 0))), (2, .inl v2_12), (3, .inl v3_20)]) (st' := [.inl (I35 7 (Int.toNat (((4 * v2_12) + v3_20)))), .inr (.inr (some 0))]) (h' := gr_h I35 J36) (C := ((True ∧ True) ∧ (0 ≤ (((4 * v2_12) + v3_20)) ∧ (((4 * v2_12) + v3_20)) < ((384 : Nat) : Int)))) rfl ⟨⟨trivial, trivial⟩, ⟨by omega, by omega⟩⟩ ?_
            rw [FI35 7 (Int.toNat (((4 * v2_12) + v3_20))) rfl]
            have f46 := (show 0 ≤ I 7 (Int.toNat (((4 * v2_12) + v3_20))) ∧ I 7 (Int.toNat (((4 * v2_12) + v3_20))) ≤ 31 from (hI 7 (Int.toNat (((4 * v2_12) + v3_20)))).1)
            obtain ⟨r47, h47, E47, P47⟩ := ihR I35 J36 hI35 ((I 7 (Int.toNat (((4 * v2_12) + v3_20))))) ⟨by omega, by omega⟩ (by omega) (by omega) (by omega) (by omega) (by omega) (by omega) (gs_X β N9 q9) aT1 (by omega) (gt_Tb_fr tB g34 k34 rfl (fun _ => rfl) (fun _ => rfl) (fun _ => rfl) (fun _ => rfl)) (by omega)
            obtain ⟨I48, J49, rfl, hI48, g47, k47, ⟨z47, rfl, q47⟩⟩ := P47
            have yG : I 7 (Int.toNat (((4 * v2_12) + v3_20))) = gt_rg Ir v2_12 v3_20 := y2.2.2.2.1 _
            have c32 : gs_T β N9 q9 = s1_26 := by omega
            obtain ⟨q8, ⟨bT, bq⟩, kr⟩ : gt_Po β N9 Ir Jr (I 7 (Int.toNat (((4 * v2_12) + v3_20)))) (I35 0 188) (gs_X β N9 q9) I48 J49 z47 := q47.2.2.2.2.2.2.2.2.2.2.2.2.2.2
            have kr2 : ∀ st, gt_kk (gt_rg Ir) a1 st → gt_M β N9 (gt_rf β N9 Ir Jr) (gt_ra Ir) (gt_rk Ir) (gt_rg Ir) (Int.toNat (60 - I 0 188)) p9 st = gt_M β N9 (gt_rf β N9 Ir Jr) (gt_ra Ir) (gt_rk Ir) (gt_rg Ir) (Int.toNat (60 - I35 0 188)) (gs_X β N9 q9) ((v2_12, v3_20) :: st) := fun st hk => (kw st hk).trans ((gt_W_m (by omega) (by omega) o_26 c32).trans (by rw [show I35 0 188 = I18 0 188 from by omega]))
            have FI48 := gr_frt FI35 g47 rfl rfl
            have FJ49 := gr_fjt FJ36 k47 rfl rfl
            have t50 := g47 0 69 rfl
            have f51 := (show 0 ≤ I48 0 71 ∧ I48 0 71 ≤ 5 from (hI48 0 71).1)
            have f52 := (show 0 ≤ I48 0 72 ∧ I48 0 72 ≤ 1000 from (hI48 0 72).1)
            have f53 := (show 0 ≤ I48 0 73 ∧ I48 0 73 ≤ 1001 from (hI48 0 73).1)
            have f54 := (show 0 ≤ I48 0 69 ∧ I48 0 69 ≤ 1000 from (hI48 0 69).1)
            have f55 := (show 0 ≤ I48 0 188 ∧ I48 0 188 ≤ 2000 from (hI48 0 188).1)
            have t56 := q47.2.2.2.2.2.2.2.2.2.2.2.2.1 (Int.toNat (I 0 188)) (by omega)
            refine gv_callV hD rfl (As := [.inl (I 7 (Int.toNat (((4 * v2_12) + v3_20))))]) (st := []) rfl (by decide) rfl rfl (gr_lV hws rfl) (Nat.le_of_ble_eq_true rfl) (gz_Ev_mono (d := (10 + nr)) (Nat.le_refl _) E47) ?_
            show gv_X _ _ (127, [(0, .inr (.inr (some 0))), (2, .inl v2_12), (3, .inl v3_20)], [.inl z47], gr_sh ++ ext, gr_h I48 J49)
            refine gv_if_eq (t := 132) hD rfl rfl ⟨by omega, by omega⟩ (fun c57 => ?_) (fun c57 => ?_)
            · refine gv_run 2 true hD (pc' := 79) (lv' := [(3, .inl (v3_20 + 1)), (0, .inr (.inr (some 0))), (2, .inl v2_12)]) (st' := []) (h' := gr_h I48 J49) (C := ((True ∧ True) ∧ True)) rfl ⟨⟨trivial, trivial⟩, trivial⟩ ?_
              refine gv_pick [1, 2, 0] rfl ?_
              exact ih79 I48 J49 (v3_20 + 1) (by omega) hI48 FI48 FJ49 (by omega) (fun j hj => ((q47.2.2.2.2.2.2.2.2.2.2.2.2.1 j (by omega)).trans ((g34 113 j rfl).trans (e0_26 j hj)))) (gr_SG_ap (gr_SG_fr (by rw [show I35 0 188 = I18 0 188 from by omega]; exact gr_SG_fr e1_26 (fun j _ _ => g34 113 j rfl) (fun f _ => g34 6 f rfl) (Int.le_of_eq (g34 0 3 rfl).symm)) (fun j _ hj => q47.2.2.2.2.2.2.2.2.2.2.2.2.1 j hj) (fun f _ => g47 6 f rfl) (Int.le_of_eq (g47 0 3 rfl).symm)) (gr_o_x q47.2.2.2.2.2.2.2.2.2.2.2.2.2.1 (by omega))) ⟨q8, ⟨bT, bq⟩, fun st hk => (kr2 st hk).trans (((kr ((v2_12, v3_20) :: st) ⟨by omega, yG⟩).1 (by omega)).trans (gt_C_W (by omega)))⟩
            · refine gv_run 1 true hD (pc' := 131) (lv' := [(0, .inr (.inr (some 0))), (2, .inl v2_12), (3, .inl v3_20)]) (st' := [.inl 1]) (h' := gr_h I48 J49) (C := (True ∧ True)) rfl ⟨trivial, trivial⟩ ?_
              exact gv_zret hD rfl (by omega) ⟨I48, J49, rfl, hI48, FI48, FJ49, ⟨_, rfl, by omega, by omega, by omega, by omega, by omega, by omega, by omega, by omega, by omega, by omega, by omega, by omega, (fun j hj => ((q47.2.2.2.2.2.2.2.2.2.2.2.2.1 j (by omega)).trans ((g34 113 j rfl).trans (e0_26 j hj)))), (gr_o_a (by omega)), gt_Po_1 bT bq (fun st hk => (kr2 st hk).trans ((kr ((v2_12, v3_20) :: st) ⟨by omega, yG⟩).2 (by omega)))⟩⟩
          · refine gv_run 1 true hD (pc' := 108) (lv' := [(0, .inr (.inr (some 0))), (2, .inl v2_12), (3, .inl v3_20)]) (st' := [.inl 1]) (h' := gr_h I18 J19) (C := (True ∧ True)) rfl ⟨trivial, trivial⟩ ?_
            exact gv_zret hD rfl (by omega) ⟨I18, J19, rfl, hI18, FI18, FJ19, ⟨_, rfl, by omega, by omega, by omega, by omega, by omega, by omega, by omega, by omega, by omega, by omega, by omega, by omega, (fun j hj => (e0_26 j hj)), (gr_o_a (by omega)), gt_Po_1 aT aq (fun st hk => (kw st hk).trans (gt_W_f (by omega) (by omega) o_26 (by omega)))⟩⟩
        have f58 := (show 0 ≤ I18 6 (Int.toNat v2_12) ∧ I18 6 (Int.toNat v2_12) ≤ 4 from (hI18 6 (Int.toNat v2_12)).1)
        refine gv_run 5 true hD (pc' := 86) (lv' := [(0, .inr (.inr (some 0))), (2, .inl v2_12), (3, .inl v3_20)]) (st' := [.inl (I18 6 (Int.toNat v2_12)), .inl v3_20]) (h' := gr_h I18 J19) (C := (((((True ∧ True) ∧ True) ∧ True) ∧ True) ∧ (0 ≤ v2_12 ∧ v2_12 < ((96 : Nat) : Int)))) rfl ⟨⟨⟨⟨⟨trivial, trivial⟩, trivial⟩, trivial⟩, trivial⟩, ⟨by omega, by omega⟩⟩ ?_
        rw [FI18 6 (Int.toNat v2_12) rfl]
        have f59 := (show 0 ≤ I 6 (Int.toNat v2_12) ∧ I 6 (Int.toNat v2_12) ≤ 4 from (hI 6 (Int.toNat v2_12)).1)
        refine gv_icmp_ge (t := 138) hD rfl rfl ⟨⟨by omega, by omega⟩, ⟨by omega, by omega⟩⟩ (fun c60 => ?_) (fun c60 => ?_)
        · have f61 := (show 0 ≤ I18 6 (Int.toNat v2_12) ∧ I18 6 (Int.toNat v2_12) ≤ 4 from (hI18 6 (Int.toNat v2_12)).1)
          refine gv_run 4 true hD (pc' := 144) (lv' := [(0, .inr (.inr (some 0))), (2, .inl v2_12), (3, .inl v3_20)]) (st' := [.inl (I18 6 (Int.toNat v2_12))]) (h' := gr_h I18 J19) (C := ((((True ∧ True) ∧ True) ∧ True) ∧ (0 ≤ v2_12 ∧ v2_12 < ((96 : Nat) : Int)))) rfl ⟨⟨⟨⟨trivial, trivial⟩, trivial⟩, trivial⟩, ⟨by omega, by omega⟩⟩ ?_
          rw [FI18 6 (Int.toNat v2_12) rfl]
          have f62 := (show 0 ≤ I 6 (Int.toNat v2_12) ∧ I 6 (Int.toNat v2_12) ≤ 4 from (hI 6 (Int.toNat v2_12)).1)
          refine gv_if_ne (t := 149) hD rfl rfl ⟨by omega, by omega⟩ (fun c63 => ?_) (fun c63 => ?_)
          · refine gv_run 2 true hD (pc' := 152) (lv' := [(0, .inr (.inr (some 0))), (2, .inl v2_12), (3, .inl v3_20)]) (st' := [.inl 41, .inr (.inr (some 0))]) (h' := gr_h I18 J19) (C := ((True ∧ True) ∧ True)) rfl ⟨⟨trivial, trivial⟩, trivial⟩ ?_
            obtain ⟨r64, h64, E64, P64⟩ := r_sign_p (ws0 := ws0) (tb := tb) hws htb ext β N9 q9 I18 J19 hI18 41 ⟨by omega, by omega⟩ (by omega) aT aq
            obtain ⟨rfl, ⟨z64, rfl, q64⟩⟩ := P64
            refine gv_callV hD rfl (As := [.inl 41]) (st := []) rfl (by decide) rfl rfl (gr_lV hws rfl) (Nat.le_of_ble_eq_true rfl) (gz_Ev_mono (d := 1) (by omega) E64) ?_
            show gv_X _ _ (155, [(0, .inr (.inr (some 0))), (2, .inl v2_12), (3, .inl v3_20)], [.inl z64], gr_sh ++ ext, gr_h I18 J19)
            refine gv_if_ne (t := 160) hD rfl rfl ⟨by omega, by omega⟩ (fun c65 => ?_) (fun c65 => ?_)
            · refine gv_run 1 true hD (pc' := 161) (lv' := [(0, .inr (.inr (some 0))), (2, .inl v2_12), (3, .inl v3_20)]) (st' := [.inr (.inr (some 0))]) (h' := gr_h I18 J19) (C := (True ∧ True)) rfl ⟨trivial, trivial⟩ ?_
              obtain ⟨r66, h66, E66, P66⟩ := r_next_p (ws0 := ws0) (tb := tb) hws htb ext β N9 I18 J19 hI18 (by omega) aT.1.1 aT.1.2
              obtain ⟨I67, J68, rfl, hI67, g66, k66, ⟨rfl, q66⟩⟩ := P66
              have aT2 : gr_ATp β N9 (gs_X β N9 q9) I67 J68 := by
                have h9 := q66.2.2.2.2.2
                rw [show I18 0 73 = gs_X β N9 q9 from by omega] at h9
                exact h9
              have FI67 := gr_frt FI18 g66 rfl rfl
              have FJ68 := gr_fjt FJ19 k66 rfl rfl
              have t69 := g66 0 69 rfl
              have t70 := g66 0 188 rfl
              have t71 := g66 113 (Int.toNat (I 0 188)) rfl
              have f72 := (show 0 ≤ I67 0 71 ∧ I67 0 71 ≤ 5 from (hI67 0 71).1)
              have f73 := (show 0 ≤ I67 0 72 ∧ I67 0 72 ≤ 1000 from (hI67 0 72).1)
              have f74 := (show 0 ≤ I67 0 73 ∧ I67 0 73 ≤ 1001 from (hI67 0 73).1)
              have f75 := (show 0 ≤ I67 0 69 ∧ I67 0 69 ≤ 1000 from (hI67 0 69).1)
              have f76 := (show 0 ≤ I67 0 188 ∧ I67 0 188 ≤ 2000 from (hI67 0 188).1)
              refine gv_callV hD rfl (As := []) (st := []) rfl (by decide) rfl rfl (gr_lV hws rfl) (Nat.le_of_ble_eq_true rfl) (gz_Ev_mono (d := 10) (by omega) E66) ?_
              show gv_X _ _ (164, [(0, .inr (.inr (some 0))), (2, .inl v2_12), (3, .inl v3_20)], [], gr_sh ++ ext, gr_h I67 J68)
              refine gv_run 1 true hD (pc' := 165) (lv' := [(0, .inr (.inr (some 0))), (2, .inl v2_12), (3, .inl v3_20)]) (st' := [.inl 0]) (h' := gr_h I67 J68) (C := (True ∧ True)) rfl ⟨trivial, trivial⟩ ?_
              exact gv_zret hD rfl (by omega) ⟨I67, J68, rfl, hI67, FI67, FJ68, ⟨_, rfl, by omega, by omega, by omega, by omega, by omega, by omega, by omega, by omega, by omega, by omega, by omega, by omega, (fun j hj => ((g66 113 j rfl).trans (e0_20 j hj))), (gr_o_b (gr_SG_nd (m := v3_20) (f := v2_12) (by rw [show I67 0 188 = I18 0 188 from by omega]; exact gr_SG_fr e1_20 (fun j _ _ => g66 113 j rfl) (fun f _ => g66 6 f rfl) (Int.le_of_eq (g66 0 3 rfl).symm)) (by omega) (by rw [FI67 6 _ rfl]; omega) (by omega) ⟨by omega, by rw [FI67 0 3 rfl]; omega⟩)), gt_Po_0 aT2 (by omega) (fun st hk => (kw st hk).trans ((gt_W_e (by omega) (by omega) (by omega)).trans (by rw [show I67 0 188 = I18 0 188 from by omega])))⟩⟩
            · refine gv_run 1 true hD (pc' := 159) (lv' := [(0, .inr (.inr (some 0))), (2, .inl v2_12), (3, .inl v3_20)]) (st' := [.inl 1]) (h' := gr_h I18 J19) (C := (True ∧ True)) rfl ⟨trivial, trivial⟩ ?_
              exact gv_zret hD rfl (by omega) ⟨I18, J19, rfl, hI18, FI18, FJ19, ⟨_, rfl, by omega, by omega, by omega, by omega, by omega, by omega, by omega, by omega, by omega, by omega, by omega, by omega, (fun j hj => (e0_20 j hj)), (gr_o_a (by omega)), gt_Po_1 aT aq (fun st hk => (kw st hk).trans (gt_W_x (by omega) (by omega) (by omega)))⟩⟩
          · refine gv_run 1 true hD (pc' := 148) (lv' := [(0, .inr (.inr (some 0))), (2, .inl v2_12), (3, .inl v3_20)]) (st' := [.inl 0]) (h' := gr_h I18 J19) (C := (True ∧ True)) rfl ⟨trivial, trivial⟩ ?_
            exact gv_zret hD rfl (by omega) ⟨I18, J19, rfl, hI18, FI18, FJ19, ⟨_, rfl, by omega, by omega, by omega, by omega, by omega, by omega, by omega, by omega, by omega, by omega, by omega, by omega, (fun j hj => (e0_20 j hj)), (gr_o_b (gr_SG_nd (m := v3_20) (f := v2_12) e1_20 (by omega) (by rw [FI18 6 _ rfl]; omega) (by omega) ⟨by omega, by rw [FI18 0 3 rfl]; omega⟩)), gt_Po_0 aT aq (fun st hk => (kw st hk).trans (gt_W_0 (by omega) (by omega)))⟩⟩
        · refine gv_run 2 true hD (pc' := 91) (lv' := [(0, .inr (.inr (some 0))), (2, .inl v2_12), (3, .inl v3_20)]) (st' := [.inl v3_20, .inr (.inr (some 0))]) (h' := gr_h I18 J19) (C := ((True ∧ True) ∧ True)) rfl ⟨⟨trivial, trivial⟩, trivial⟩ ?_
          refine gv_if_ne (t := 99) hD rfl rfl ⟨by omega, by omega⟩ (fun c77 => ?_) (fun c77 => ?_)
          · refine gv_run 1 true hD (pc' := 101) (lv' := [(0, .inr (.inr (some 0))), (2, .inl v2_12), (3, .inl v3_20)]) (st' := [.inl 44, .inr (.inr (some 0))]) (h' := gr_h I18 J19) (C := (True ∧ True)) rfl ⟨trivial, trivial⟩ ?_
            exact L101 44 (by omega) (fun j hj => (e0_20 j hj)) e1_20 (by omega)
          · refine gv_run 2 true hD (pc' := 101) (lv' := [(0, .inr (.inr (some 0))), (2, .inl v2_12), (3, .inl v3_20)]) (st' := [.inl 40, .inr (.inr (some 0))]) (h' := gr_h I18 J19) (C := ((True ∧ True) ∧ True)) rfl ⟨⟨trivial, trivial⟩, trivial⟩ ?_
            exact L101 40 (by omega) (fun j hj => (e0_20 j hj)) e1_20 (by omega)
    have f78 := (show 0 ≤ I 0 188 ∧ I 0 188 ≤ 2000 from (hI 0 188).1)
    refine gv_run 3 true hD (pc' := 51) (lv' := [(0, .inr (.inr (some 0))), (2, .inl v2_12)]) (st' := [.inl 60, .inl (I 0 188)]) (h' := gr_h I J) (C := (((True ∧ True) ∧ True) ∧ True)) rfl ⟨⟨⟨trivial, trivial⟩, trivial⟩, trivial⟩ ?_
    refine gv_icmp_ne (t := 56) hD rfl rfl ⟨⟨by omega, by omega⟩, ⟨by omega, by omega⟩⟩ (fun c79 => ?_) (fun c79 => ?_)
    · have f80 := (show 0 ≤ I 0 188 ∧ I 0 188 ≤ 2000 from (hI 0 188).1)
      refine gv_run 7 true hD (pc' := 67) (lv' := [(0, .inr (.inr (some 0))), (2, .inl v2_12)]) (st' := [.inl 1, .inl (I 0 188), .inr (.inr (some 0)), .inl (I 0 188), .inr (.inr (some 113))]) (h' := gr_h I J) (C := (((((((True ∧ True) ∧ True) ∧ True) ∧ True) ∧ True) ∧ True) ∧ True)) rfl ⟨⟨⟨⟨⟨⟨⟨trivial, trivial⟩, trivial⟩, trivial⟩, trivial⟩, trivial⟩, trivial⟩, trivial⟩ ?_
      refine gv_run 2 true hD (pc' := 71) (lv' := [(0, .inr (.inr (some 0))), (2, .inl v2_12)]) (st' := [.inl (I 0 188), .inr (.inr (some 113))]) (h' := gz_up (gr_h I J) 0 188 (.inl (((I 0 188) + 1)))) (C := ((True ∧ True) ∧ True)) rfl ⟨⟨trivial, trivial⟩, trivial⟩ ?_
      refine gr_st hI FI rfl rfl ⟨⟨by show 0 ≤ _; omega, by show _ ≤ 2000; omega⟩, trivial⟩ (fun I81 hI81 FI81 q82 p82 => ?_)
      have t83 := p82 0 71 (by decide)
      have t84 := p82 0 72 (by decide)
      have t85 := p82 0 73 (by decide)
      have t86 := p82 0 69 (by decide)
      have t87 := p82 113 (Int.toNat (I 0 188)) (fun q => absurd q.1 (by decide))
      have f88 := (show 0 ≤ I81 0 71 ∧ I81 0 71 ≤ 5 from (hI81 0 71).1)
      have f89 := (show 0 ≤ I81 0 72 ∧ I81 0 72 ≤ 1000 from (hI81 0 72).1)
      have f90 := (show 0 ≤ I81 0 73 ∧ I81 0 73 ≤ 1001 from (hI81 0 73).1)
      have f91 := (show 0 ≤ I81 0 69 ∧ I81 0 69 ≤ 1000 from (hI81 0 69).1)
      have f92 := (show 0 ≤ I81 0 188 ∧ I81 0 188 ≤ 2000 from (hI81 0 188).1)
      refine gv_run 2 true hD (pc' := 73) (lv' := [(0, .inr (.inr (some 0))), (2, .inl v2_12)]) (st' := []) (h' := gz_up (gr_h I81 J) 113 (Int.toNat ((I 0 188))) (.inl v2_12)) (C := ((True ∧ True) ∧ (0 ≤ (I 0 188) ∧ (I 0 188) < ((2000 : Nat) : Int)))) rfl ⟨⟨trivial, trivial⟩, ⟨by omega, by omega⟩⟩ ?_
      refine gr_st hI81 FI81 rfl rfl ⟨⟨by show 0 ≤ _; omega, by show _ ≤ 95; omega⟩, trivial⟩ (fun I93 hI93 FI93 q94 p94 => ?_)
      have t95 := p94 0 71 (fun q => absurd q.1 (by decide))
      have t96 := p94 0 72 (fun q => absurd q.1 (by decide))
      have t97 := p94 0 73 (fun q => absurd q.1 (by decide))
      have t98 := p94 0 69 (fun q => absurd q.1 (by decide))
      have t99 := p94 0 188 (fun q => absurd q.1 (by decide))
      have f100 := (show 0 ≤ I93 0 71 ∧ I93 0 71 ≤ 5 from (hI93 0 71).1)
      have f101 := (show 0 ≤ I93 0 72 ∧ I93 0 72 ≤ 1000 from (hI93 0 72).1)
      have f102 := (show 0 ≤ I93 0 73 ∧ I93 0 73 ≤ 1001 from (hI93 0 73).1)
      have f103 := (show 0 ≤ I93 0 69 ∧ I93 0 69 ≤ 1000 from (hI93 0 69).1)
      have f104 := (show 0 ≤ I93 0 188 ∧ I93 0 188 ≤ 2000 from (hI93 0 188).1)
      refine gv_run 1 true hD (pc' := 74) (lv' := [(0, .inr (.inr (some 0))), (2, .inl v2_12)]) (st' := [.inr (.inr (some 0))]) (h' := gr_h I93 J) (C := (True ∧ True)) rfl ⟨trivial, trivial⟩ ?_
      obtain ⟨r105, h105, E105, P105⟩ := r_next_p (ws0 := ws0) (tb := tb) hws htb ext β N9 I93 J hI93 (by omega) (by rw [show I93 57 = I 57 from funext fun k => FI93 57 k rfl]; exact y0.1.1) (by have h9 := y0.1.2; omega)
      obtain ⟨I106, J107, rfl, hI106, g105, k105, ⟨rfl, q105⟩⟩ := P105
      have aT3 : gr_ATp β N9 (gs_X β N9 p9) I106 J107 := by
        have h9 := q105.2.2.2.2.2
        rw [show I93 0 73 = gs_X β N9 p9 from by omega] at h9
        exact h9
      have FI106 := gr_frt FI93 g105 rfl rfl
      have FJ107 := gr_fjt FJ k105 rfl rfl
      have t108 := g105 0 69 rfl
      have t109 := g105 0 188 rfl
      have t110 := g105 113 (Int.toNat (I 0 188)) rfl
      have f111 := (show 0 ≤ I106 0 71 ∧ I106 0 71 ≤ 5 from (hI106 0 71).1)
      have f112 := (show 0 ≤ I106 0 72 ∧ I106 0 72 ≤ 1000 from (hI106 0 72).1)
      have f113 := (show 0 ≤ I106 0 73 ∧ I106 0 73 ≤ 1001 from (hI106 0 73).1)
      have f114 := (show 0 ≤ I106 0 69 ∧ I106 0 69 ≤ 1000 from (hI106 0 69).1)
      have f115 := (show 0 ≤ I106 0 188 ∧ I106 0 188 ≤ 2000 from (hI106 0 188).1)
      refine gv_callV hD rfl (As := []) (st := []) rfl (by decide) rfl rfl (gr_lV hws rfl) (Nat.le_of_ble_eq_true rfl) (gz_Ev_mono (d := 10) (by omega) E105) ?_
      show gv_X _ _ (77, [(0, .inr (.inr (some 0))), (2, .inl v2_12)], [], gr_sh ++ ext, gr_h I106 J107)
      have t116 := (show 0 ≤ I 6 (Int.toNat v2_12) ∧ I 6 (Int.toNat v2_12) ≤ 4 from (hI 6 _).1)
      refine gv_run 2 true hD (pc' := 79) (lv' := [(3, .inl 0), (0, .inr (.inr (some 0))), (2, .inl v2_12)]) (st' := []) (h' := gr_h I106 J107) (C := ((True ∧ True) ∧ True)) rfl ⟨⟨trivial, trivial⟩, trivial⟩ ?_
      refine gv_pick [1, 2, 0] rfl ?_
      exact L79 _ I106 J107 0 (Nat.lt_succ_self _) hI106 FI106 FJ107 (by omega) (fun j hj => ((g105 113 j rfl).trans ((p94 113 j (fun q => by have h8 := q.2; omega)).trans (p82 113 j (fun q => absurd q.1 (by decide)))))) (by rw [show I106 0 188 = I 0 188 + 1 from by omega]; exact gr_SG_0 (by omega)) ⟨gs_X β N9 p9, ⟨aT3, by omega⟩, fun st hk => (gt_M_y c_12.1.2 (by have h9 := c_12.1.1; omega) (by rw [← c_12.1.1]; exact c_12.2 st hk) ⟨by omega, by omega⟩ c_12.1.1.symm).trans (by rw [show I106 0 188 = I 0 188 + 1 from by omega])⟩
    · refine gv_pick [] rfl ?_
      exact L54 (by omega) (fun st _ => gt_M_z (by omega))
  have f117 := (show 0 ≤ I 0 71 ∧ I 0 71 ≤ 5 from (hI 0 71).1)
  refine gv_run 3 true hD (pc' := 5) (lv' := [(0, .inr (.inr (some 0))), (1, .inl a1)]) (st' := [.inl 1, .inl (I 0 71)]) (h' := gr_h I J) (C := (((True ∧ True) ∧ True) ∧ True)) rfl ⟨⟨⟨trivial, trivial⟩, trivial⟩, trivial⟩ ?_
  refine gv_icmp_eq (t := 10) hD rfl rfl ⟨⟨by omega, by omega⟩, ⟨by omega, by omega⟩⟩ (fun c118 => ?_) (fun c118 => ?_)
  · have f119 := (show 0 ≤ I 0 3 ∧ I 0 3 ≤ 96 from (hI 0 3).1)
    refine gv_run 7 true hD (pc' := 23) (lv' := [(0, .inr (.inr (some 0))), (1, .inl a1)]) (st' := [.inr (.inl (J 0 75)), .inl (I 0 3), .inl 0, .inr (.inr (some 3))]) (h' := gr_h I J) (C := (((((((True ∧ True) ∧ True) ∧ True) ∧ True) ∧ True) ∧ True) ∧ True)) rfl ⟨⟨⟨⟨⟨⟨⟨trivial, trivial⟩, trivial⟩, trivial⟩, trivial⟩, trivial⟩, trivial⟩, trivial⟩ ?_
    obtain ⟨r120, h120, E120, P120⟩ := r_find_3_p (ws0 := ws0) (tb := tb) hws htb ext I J hI 0 (I 0 3) (J 0 75) ⟨by omega, by omega⟩ ⟨by omega, by omega⟩ (by omega)
    obtain ⟨rfl, ⟨z120, rfl, q120⟩⟩ := P120
    have zF : z120 = gt_rf β N9 Ir Jr p9 := gt_find y2 yR q120.2.2.2
    have zT : gs_T β N9 p9 = 1 := gs_k_1.mp (by omega)
    refine gv_callS hD rfl (As := [.inr (.inr (some 3)), .inl 0, .inl (I 0 3), .inr (.inl (J 0 75))]) (st := []) rfl (gr_lS hws rfl) (Nat.le_of_ble_eq_true rfl) (gz_Ev_mono (d := 1) (by omega) E120) ?_
    show gv_X _ _ (26, [(0, .inr (.inr (some 0))), (1, .inl a1)], [.inl z120], gr_sh ++ ext, gr_h I J)
    refine gv_run 2 true hD (pc' := 28) (lv' := [(2, .inl z120), (0, .inr (.inr (some 0))), (1, .inl a1)]) (st' := [.inl z120]) (h' := gr_h I J) (C := ((True ∧ True) ∧ True)) rfl ⟨⟨trivial, trivial⟩, trivial⟩ ?_
    refine gv_if_lt (t := 54) hD rfl rfl ⟨by omega, by omega⟩ (fun c121 => ?_) (fun c121 => ?_)
    · refine gv_pick [] rfl ?_
      exact L54 (by omega) (fun st _ => gt_M_n (fun h9 => by have h8 := h9.2.1; omega))
    · refine gv_run 1 true hD (pc' := 32) (lv' := [(2, .inl z120), (0, .inr (.inr (some 0))), (1, .inl a1)]) (st' := [.inl a1]) (h' := gr_h I J) (C := (True ∧ True)) rfl ⟨trivial, trivial⟩ ?_
      refine gv_if_lt (t := 45) hD rfl rfl ⟨by omega, by omega⟩ (fun c122 => ?_) (fun c122 => ?_)
      · refine gv_pick [1, 0] rfl ?_
        exact L45 z120 (by omega) ⟨⟨zF, zT⟩, fun st hk => gt_kk_n hk (by omega)⟩
      · have f123 := (show 0 ≤ I 8 (Int.toNat z120) ∧ I 8 (Int.toNat z120) ≤ 31 from (hI 8 (Int.toNat z120)).1)
        have yk : I 8 (Int.toNat z120) = gt_rk Ir z120 := y2.2.2.2.2 _
        refine gv_run 4 true hD (pc' := 41) (lv' := [(2, .inl z120), (0, .inr (.inr (some 0))), (1, .inl a1)]) (st' := [.inl (I 8 (Int.toNat z120))]) (h' := gr_h I J) (C := ((((True ∧ True) ∧ True) ∧ True) ∧ (0 ≤ z120 ∧ z120 < ((96 : Nat) : Int)))) rfl ⟨⟨⟨⟨trivial, trivial⟩, trivial⟩, trivial⟩, ⟨by omega, by omega⟩⟩ ?_
        refine gv_run 1 true hD (pc' := 42) (lv' := [(2, .inl z120), (0, .inr (.inr (some 0))), (1, .inl a1)]) (st' := [.inl a1, .inl (I 8 (Int.toNat z120))]) (h' := gr_h I J) (C := (True ∧ True)) rfl ⟨trivial, trivial⟩ ?_
        refine gv_icmp_ne (t := 54) hD rfl rfl ⟨⟨by omega, by omega⟩, ⟨by omega, by omega⟩⟩ (fun c124 => ?_) (fun c124 => ?_)
        · refine gv_pick [] rfl ?_
          exact L54 (by omega) (fun st hk => gt_M_n (fun h9 => gt_kk_f (kd := gt_rk Ir) (f := z120) hk (by omega) (by omega) (by rw [zF]; exact h9.2.2)))
        · refine gv_pick [1, 0] rfl ?_
          exact L45 z120 (by omega) ⟨⟨zF, zT⟩, fun st hk => gt_kk_y hk (by omega)⟩
  · refine gv_run 1 true hD (pc' := 9) (lv' := [(0, .inr (.inr (some 0))), (1, .inl a1)]) (st' := [.inl 1]) (h' := gr_h I J) (C := (True ∧ True)) rfl ⟨trivial, trivial⟩ ?_
    exact gv_zret hD rfl (by omega) ⟨I, J, rfl, hI, FI, FJ, ⟨_, rfl, by omega, by omega, by omega, by omega, by omega, by omega, by omega, by omega, by omega, by omega, by omega, by omega, (fun j hj => rfl), (gr_o_a (by omega)), gt_Po_1 y0 y1 (fun st _ => gt_M_n (fun h9 => by have h8 := gs_k_1.mpr h9.1; omega))⟩⟩
set_option maxHeartbeats 4000000 in
set_option maxRecDepth 100000 in
theorem r_noPlace_z {ws0 : List Cond} {tb : String → gz_T} (hws : ∀ w ∈ gr_ws, w ∈ ws0) (htb : tb RX13 = gr_T) (ext : gz_Sh) (I : gr_I) (J : gr_J) (hI : gr_Inv I) (a1 : Int) (ha1 : (-2147483648) ≤ a1 ∧ a1 ≤ 2147483647)  : ∃ r h', gz_Ev ws0 tb 1 (yX13_noPlace, cX13_noPlace, 2, (some .boolean)) [.inr (.inr (some 0)), .inl a1] (gr_sh ++ ext) (gr_h I J) r (gr_sh ++ ext) h' 0 0 ∧ (∃ (I' : gr_I) (J' : gr_J), h' = gr_h I' J' ∧ gr_Inv I' ∧ gr_fr [0] [] I I' ∧ gr_fj [0] [] J J' ∧ (∃ z : Int, r = some (.inl z) ∧ 0 ≤ z ∧ z ≤ 1 ∧ (z = 0 → 0 ≤ a1 ∧ a1 ≤ 7) ∧ ((z = 0 ∧ (0 ≤ a1 ∧ a1 ≤ 7)) ∨ (z = 1 ∧ ¬ (0 ≤ a1 ∧ a1 ≤ 7))) ∧ (z = I' 0 0))) := by
  have FI : gr_fr [0] [] I I := fun _ _ _ => rfl
  have FJ : gr_fj [0] [] J J := fun _ _ _ => rfl
  have hD : gv_D (gr_E ws0 tb 0 (yX13_noPlace, cX13_noPlace, 2, (some .boolean)) kX13_noPlace) := gq_ok oX13_noPlace
  refine gr_ev (d := 0) (l := kX13_noPlace) (Po := fun r h' => (∃ (I' : gr_I) (J' : gr_J), h' = gr_h I' J' ∧ gr_Inv I' ∧ gr_fr [0] [] I I' ∧ gr_fj [0] [] J J' ∧ (∃ z : Int, r = some (.inl z) ∧ 0 ≤ z ∧ z ≤ 1 ∧ (z = 0 → 0 ≤ a1 ∧ a1 ≤ 7) ∧ ((z = 0 ∧ (0 ≤ a1 ∧ a1 ≤ 7)) ∨ (z = 1 ∧ ¬ (0 ≤ a1 ∧ a1 ≤ 7))) ∧ (z = I' 0 0)))) htb rfl (Nat.le_of_ble_eq_true rfl) ?_
  have L16 : ∀ (s1_1 : Int), ((0 ≤ s1_1 ∧ s1_1 ≤ 1) ∧ (s1_1 = 0 → 0 ≤ a1 ∧ a1 ≤ 7) ∧ ((s1_1 = 0 ∧ (0 ≤ a1 ∧ a1 ≤ 7)) ∨ (s1_1 = 1 ∧ ¬ (0 ≤ a1 ∧ a1 ≤ 7)))) → gv_X (gr_E ws0 tb 0 (yX13_noPlace, cX13_noPlace, 2, (some .boolean)) kX13_noPlace) (gv_Q cX13_noPlace (some .boolean) (gr_sh ++ ext) (fun r h' => (∃ (I' : gr_I) (J' : gr_J), h' = gr_h I' J' ∧ gr_Inv I' ∧ gr_fr [0] [] I I' ∧ gr_fj [0] [] J J' ∧ (∃ z : Int, r = some (.inl z) ∧ 0 ≤ z ∧ z ≤ 1 ∧ (z = 0 → 0 ≤ a1 ∧ a1 ≤ 7) ∧ ((z = 0 ∧ (0 ≤ a1 ∧ a1 ≤ 7)) ∨ (z = 1 ∧ ¬ (0 ≤ a1 ∧ a1 ≤ 7))) ∧ (z = I' 0 0))))) (16, [(0, .inr (.inr (some 0)))], [.inl s1_1, .inr (.inr (some 0))], gr_sh ++ ext, gr_h I J) := by
    intro s1_1 m_1
    obtain ⟨hs1_1, e0_1, e1_1⟩ := m_1
    have L31 : ∀ (I2 : gr_I) (J3 : gr_J) (s0_4 : Int), gr_Inv I2 → gr_fr [0] [] I I2 → gr_fj [0] [] J J3 → ((0 ≤ s0_4 ∧ s0_4 ≤ 1) ∧ (s0_4 = 0 → 0 ≤ a1 ∧ a1 ≤ 7) ∧ ((s0_4 = 0 ∧ (0 ≤ a1 ∧ a1 ≤ 7)) ∨ (s0_4 = 1 ∧ ¬ (0 ≤ a1 ∧ a1 ≤ 7))) ∧ (s0_4 = I2 0 0)) → gv_X (gr_E ws0 tb 0 (yX13_noPlace, cX13_noPlace, 2, (some .boolean)) kX13_noPlace) (gv_Q cX13_noPlace (some .boolean) (gr_sh ++ ext) (fun r h' => (∃ (I' : gr_I) (J' : gr_J), h' = gr_h I' J' ∧ gr_Inv I' ∧ gr_fr [0] [] I I' ∧ gr_fj [0] [] J J' ∧ (∃ z : Int, r = some (.inl z) ∧ 0 ≤ z ∧ z ≤ 1 ∧ (z = 0 → 0 ≤ a1 ∧ a1 ≤ 7) ∧ ((z = 0 ∧ (0 ≤ a1 ∧ a1 ≤ 7)) ∨ (z = 1 ∧ ¬ (0 ≤ a1 ∧ a1 ≤ 7))) ∧ (z = I' 0 0))))) (31, [], [.inl s0_4], gr_sh ++ ext, gr_h I2 J3) := by
      intro I2 J3 s0_4 hI2 FI2 FJ3 m_4
      clear hs1_1 e0_1 e1_1
      obtain ⟨hs0_4, e0_4, e1_4, ez_4⟩ := m_4
      exact gv_zret hD rfl (by omega) ⟨I2, J3, rfl, hI2, FI2, FJ3, ⟨_, rfl, by omega⟩⟩
    refine gv_run 1 true hD (pc' := 19) (lv' := [(0, .inr (.inr (some 0)))]) (st' := []) (h' := gz_up (gr_h I J) 0 0 (.inl s1_1)) (C := (True ∧ True)) rfl ⟨trivial, trivial⟩ ?_
    refine gr_st hI FI rfl rfl ⟨⟨by show 0 ≤ _; omega, by show _ ≤ 2; omega⟩, trivial⟩ (fun I5 hI5 FI5 q6 p6 => ?_)
    have f7 := (show 0 ≤ I5 0 0 ∧ I5 0 0 ≤ 2 from (hI5 0 0).1)
    refine gv_run 2 true hD (pc' := 23) (lv' := [(0, .inr (.inr (some 0)))]) (st' := [.inl (I5 0 0)]) (h' := gr_h I5 J) (C := ((True ∧ True) ∧ True)) rfl ⟨⟨trivial, trivial⟩, trivial⟩ ?_
    refine gv_if_eq (t := 30) hD rfl rfl ⟨by omega, by omega⟩ (fun c8 => ?_) (fun c8 => ?_)
    · refine gv_run 1 true hD (pc' := 31) (lv' := [(0, .inr (.inr (some 0)))]) (st' := [.inl 0]) (h' := gr_h I5 J) (C := (True ∧ True)) rfl ⟨trivial, trivial⟩ ?_
      refine gv_pick [] rfl ?_
      exact L31 I5 J 0 hI5 FI5 FJ (by omega)
    · refine gv_run 2 true hD (pc' := 31) (lv' := [(0, .inr (.inr (some 0)))]) (st' := [.inl 1]) (h' := gr_h I5 J) (C := ((True ∧ True) ∧ True)) rfl ⟨⟨trivial, trivial⟩, trivial⟩ ?_
      refine gv_pick [] rfl ?_
      exact L31 I5 J 1 hI5 FI5 FJ (by omega)
  have L11 : ((¬ (0 ≤ a1 ∧ a1 ≤ 7))) → gv_X (gr_E ws0 tb 0 (yX13_noPlace, cX13_noPlace, 2, (some .boolean)) kX13_noPlace) (gv_Q cX13_noPlace (some .boolean) (gr_sh ++ ext) (fun r h' => (∃ (I' : gr_I) (J' : gr_J), h' = gr_h I' J' ∧ gr_Inv I' ∧ gr_fr [0] [] I I' ∧ gr_fj [0] [] J J' ∧ (∃ z : Int, r = some (.inl z) ∧ 0 ≤ z ∧ z ≤ 1 ∧ (z = 0 → 0 ≤ a1 ∧ a1 ≤ 7) ∧ ((z = 0 ∧ (0 ≤ a1 ∧ a1 ≤ 7)) ∨ (z = 1 ∧ ¬ (0 ≤ a1 ∧ a1 ≤ 7))) ∧ (z = I' 0 0))))) (11, [(0, .inr (.inr (some 0)))], [.inr (.inr (some 0))], gr_sh ++ ext, gr_h I J) := by
    intro m_9
    have e0_9 := m_9
    refine gv_run 2 true hD (pc' := 16) (lv' := [(0, .inr (.inr (some 0)))]) (st' := [.inl 1, .inr (.inr (some 0))]) (h' := gr_h I J) (C := ((True ∧ True) ∧ True)) rfl ⟨⟨trivial, trivial⟩, trivial⟩ ?_
    exact L16 1 (by omega)
  refine gv_run 2 true hD (pc' := 2) (lv' := [(0, .inr (.inr (some 0))), (1, .inl a1)]) (st' := [.inl a1, .inr (.inr (some 0))]) (h' := gr_h I J) (C := ((True ∧ True) ∧ True)) rfl ⟨⟨trivial, trivial⟩, trivial⟩ ?_
  refine gv_if_lt (t := 11) hD rfl rfl ⟨by omega, by omega⟩ (fun c10 => ?_) (fun c10 => ?_)
  · refine gv_pick [0] rfl ?_
    exact L11 (by omega)
  · refine gv_run 2 true hD (pc' := 8) (lv' := [(0, .inr (.inr (some 0))), (1, .inl a1)]) (st' := [.inl 7, .inl a1, .inr (.inr (some 0))]) (h' := gr_h I J) (C := ((True ∧ True) ∧ True)) rfl ⟨⟨trivial, trivial⟩, trivial⟩ ?_
    refine gv_icmp_le (t := 15) hD rfl rfl ⟨⟨by omega, by omega⟩, ⟨by omega, by omega⟩⟩ (fun c11 => ?_) (fun c11 => ?_)
    · refine gv_run 1 true hD (pc' := 16) (lv' := [(0, .inr (.inr (some 0))), (1, .inl a1)]) (st' := [.inl 0, .inr (.inr (some 0))]) (h' := gr_h I J) (C := (True ∧ True)) rfl ⟨trivial, trivial⟩ ?_
      refine gv_pick [0] rfl ?_
      exact L16 0 (by omega)
    · refine gv_pick [0] rfl ?_
      exact L11 (by omega)
theorem gs_A_4 {β : Int → Int} {N p : Int} (h : gs_T β N p = 4) : gs_A β N p = N := by
  by_cases c : N ≤ gs_S β N p
  · exact (gs_end rfl c).2.2
  · exfalso
    unfold gs_T at h
    rw [if_neg c] at h
    split at h
    · omega
    · split at h
      · omega
      · split at h
        · split at h <;> omega
        · split at h
          · rename_i h9
            have := gs_ix h9
            omega
          · omega
set_option maxHeartbeats 4000000 in
set_option maxRecDepth 100000 in
theorem r_tree_z {ws0 : List Cond} {tb : String → gz_T} (hws : ∀ w ∈ gr_ws, w ∈ ws0) (htb : tb RX13 = gr_T) (ext : gz_Sh) (β : Int → Int) (N9 : Int) (I : gr_I) (J : gr_J) (hI : gr_Inv I) (a1 : Int) (ha1 : (-2147483648) ≤ a1 ∧ a1 ≤ 2147483647) (KPL_I : gr_PL I) (y0 : gs_TX β N9 (I 56)) (y1 : N9 = I 0 68) : ∃ r h', gz_Ev ws0 tb 73 (yX13_tree, cX13_tree, 3, (some .int)) [.inr (.inr (some 0)), .inl a1] (gr_sh ++ ext) (gr_h I J) r (gr_sh ++ ext) h' 0 0 ∧ (∃ (I' : gr_I) (J' : gr_J), h' = gr_h I' J' ∧ gr_Inv I' ∧ gr_fr [0, 68, 69, 71, 72, 73, 74, 75, 188] [57, 113, 114, 115] I I' ∧ gr_fj [0, 68, 69, 71, 72, 73, 74, 75, 188] [57, 113, 114, 115] J J' ∧ gr_PL I' ∧ (∃ z : Int, r = some (.inl z) ∧ (-1001) ≤ z ∧ z ≤ 2000 ∧ ((0 ≤ a1 ∧ a1 ≤ 7) → I' 0 68 = 0 ∧ I' 0 0 = 0 ∧ z = gt_M β N9 (gt_rf β N9 I J) (gt_ra I) (gt_rk I) (gt_rg I) 60 0 []) ∧ (¬ (0 ≤ a1 ∧ a1 ≤ 7) → I' 0 68 = I 0 68 ∧ I' 0 0 = 1))) := by
  have FI : gr_fr [0, 68, 69, 71, 72, 73, 74, 75, 188] [57, 113, 114, 115] I I := fun _ _ _ => rfl
  have FJ : gr_fj [0, 68, 69, 71, 72, 73, 74, 75, 188] [57, 113, 114, 115] J J := fun _ _ _ => rfl
  have hD : gv_D (gr_E ws0 tb 72 (yX13_tree, cX13_tree, 3, (some .int)) kX13_tree) := gq_ok oX13_tree
  refine gr_ev (d := 72) (l := kX13_tree) (Po := fun r h' => (∃ (I' : gr_I) (J' : gr_J), h' = gr_h I' J' ∧ gr_Inv I' ∧ gr_fr [0, 68, 69, 71, 72, 73, 74, 75, 188] [57, 113, 114, 115] I I' ∧ gr_fj [0, 68, 69, 71, 72, 73, 74, 75, 188] [57, 113, 114, 115] J J' ∧ gr_PL I' ∧ (∃ z : Int, r = some (.inl z) ∧ (-1001) ≤ z ∧ z ≤ 2000 ∧ ((0 ≤ a1 ∧ a1 ≤ 7) → I' 0 68 = 0 ∧ I' 0 0 = 0 ∧ z = gt_M β N9 (gt_rf β N9 I J) (gt_ra I) (gt_rk I) (gt_rg I) 60 0 []) ∧ (¬ (0 ≤ a1 ∧ a1 ≤ 7) → I' 0 68 = I 0 68 ∧ I' 0 0 = 1)))) htb rfl (Nat.le_of_ble_eq_true rfl) ?_
  have f1 := (show 0 ≤ I 0 71 ∧ I 0 71 ≤ 5 from (hI 0 71).1)
  have f2 := (show 0 ≤ I 0 72 ∧ I 0 72 ≤ 1000 from (hI 0 72).1)
  have f3 := (show 0 ≤ I 0 73 ∧ I 0 73 ≤ 1001 from (hI 0 73).1)
  have f4 := (show 0 ≤ I 0 69 ∧ I 0 69 ≤ 1000 from (hI 0 69).1)
  have f5 := (show 0 ≤ I 0 188 ∧ I 0 188 ≤ 2000 from (hI 0 188).1)
  have f6 := (show 0 ≤ I 0 68 ∧ I 0 68 ≤ 1000 from (hI 0 68).1)
  have f7 := (show 0 ≤ I 0 1 ∧ I 0 1 ≤ 8 from (hI 0 1).1)
  have f8 := (show 0 ≤ I 0 2 ∧ I 0 2 ≤ 32 from (hI 0 2).1)
  have L43 : ∀ (I9 : gr_I) (J10 : gr_J) , gr_Inv I9 → gr_fr [0, 68, 69, 71, 72, 73, 74, 75, 188] [57, 113, 114, 115] I I9 → gr_fj [0, 68, 69, 71, 72, 73, 74, 75, 188] [57, 113, 114, 115] J J10 → gr_PL I9 → ((I9 0 71 = 5 ∨ I9 0 73 ≤ I9 0 69) ∧ (I9 0 72 ≤ I9 0 69) ∧ (I9 0 71 = 0 ∨ (I9 0 72 < I9 0 73 ∧ I9 0 72 < I9 0 69)) ∧ (I9 0 71 = 3 → 2 ≤ I9 0 73 - I9 0 72 ∧ I9 0 73 - I9 0 72 ≤ 14) ∧ (I9 0 72 ≤ I9 0 73) ∧ (I9 0 68 = 0) ∧ ((0 ≤ a1 ∧ a1 ≤ 7))) → (I9 0 0 = 0 ∧ ∃ q9, gr_ATp β N9 q9 I9 J10 ∧ gt_M β N9 (gt_rf β N9 I J) (gt_ra I) (gt_rk I) (gt_rg I) 60 0 [] = -1 - gs_A β N9 q9) → gv_X (gr_E ws0 tb 72 (yX13_tree, cX13_tree, 3, (some .int)) kX13_tree) (gv_Q cX13_tree (some .int) (gr_sh ++ ext) (fun r h' => (∃ (I' : gr_I) (J' : gr_J), h' = gr_h I' J' ∧ gr_Inv I' ∧ gr_fr [0, 68, 69, 71, 72, 73, 74, 75, 188] [57, 113, 114, 115] I I' ∧ gr_fj [0, 68, 69, 71, 72, 73, 74, 75, 188] [57, 113, 114, 115] J J' ∧ gr_PL I' ∧ (∃ z : Int, r = some (.inl z) ∧ (-1001) ≤ z ∧ z ≤ 2000 ∧ ((0 ≤ a1 ∧ a1 ≤ 7) → I' 0 68 = 0 ∧ I' 0 0 = 0 ∧ z = gt_M β N9 (gt_rf β N9 I J) (gt_ra I) (gt_rk I) (gt_rg I) 60 0 []) ∧ (¬ (0 ≤ a1 ∧ a1 ≤ 7) → I' 0 68 = I 0 68 ∧ I' 0 0 = 1))))) (43, [(0, .inr (.inr (some 0)))], [], gr_sh ++ ext, gr_h I9 J10) := by
    intro I9 J10 hI9 FI9 FJ10 KPL_I9 m_11 w_43
    obtain ⟨e0_11, e1_11, e2_11, e3_11, e4_11, e5_11, e6_11⟩ := m_11
    have f12 := (show 0 ≤ I9 0 71 ∧ I9 0 71 ≤ 5 from (hI9 0 71).1)
    have f13 := (show 0 ≤ I9 0 72 ∧ I9 0 72 ≤ 1000 from (hI9 0 72).1)
    have f14 := (show 0 ≤ I9 0 73 ∧ I9 0 73 ≤ 1001 from (hI9 0 73).1)
    have f15 := (show 0 ≤ I9 0 69 ∧ I9 0 69 ≤ 1000 from (hI9 0 69).1)
    have f16 := (show 0 ≤ I9 0 188 ∧ I9 0 188 ≤ 2000 from (hI9 0 188).1)
    have f17 := (show 0 ≤ I9 0 68 ∧ I9 0 68 ≤ 1000 from (hI9 0 68).1)
    have f18 := (show 0 ≤ I9 0 1 ∧ I9 0 1 ≤ 8 from (hI9 0 1).1)
    have f19 := (show 0 ≤ I9 0 2 ∧ I9 0 2 ≤ 32 from (hI9 0 2).1)
    obtain ⟨w0_43, q9, aT, aS⟩ := w_43
    have aK : I9 0 71 = gs_k (gs_T β N9 q9) := aT.2.1
    have aA : I9 0 72 = gs_A β N9 q9 := aT.2.2.1
    have aN : N9 = I9 0 69 := aT.1.2
    have L62 : ∀ (s0_20 : Int) (s1_20 : Int), (((-1) ≤ s0_20 ∧ s0_20 ≤ (-1)) ∧ (0 ≤ s1_20 ∧ s1_20 ≤ 1000) ∧ (I9 0 68 = 0) ∧ ((0 ≤ a1 ∧ a1 ≤ 7))) → (s0_20 - s1_20 = gt_M β N9 (gt_rf β N9 I J) (gt_ra I) (gt_rk I) (gt_rg I) 60 0 []) → gv_X (gr_E ws0 tb 72 (yX13_tree, cX13_tree, 3, (some .int)) kX13_tree) (gv_Q cX13_tree (some .int) (gr_sh ++ ext) (fun r h' => (∃ (I' : gr_I) (J' : gr_J), h' = gr_h I' J' ∧ gr_Inv I' ∧ gr_fr [0, 68, 69, 71, 72, 73, 74, 75, 188] [57, 113, 114, 115] I I' ∧ gr_fj [0, 68, 69, 71, 72, 73, 74, 75, 188] [57, 113, 114, 115] J J' ∧ gr_PL I' ∧ (∃ z : Int, r = some (.inl z) ∧ (-1001) ≤ z ∧ z ≤ 2000 ∧ ((0 ≤ a1 ∧ a1 ≤ 7) → I' 0 68 = 0 ∧ I' 0 0 = 0 ∧ z = gt_M β N9 (gt_rf β N9 I J) (gt_ra I) (gt_rk I) (gt_rg I) 60 0 []) ∧ (¬ (0 ≤ a1 ∧ a1 ≤ 7) → I' 0 68 = I 0 68 ∧ I' 0 0 = 1))))) (62, [], [.inl s1_20, .inl s0_20], gr_sh ++ ext, gr_h I9 J10) := by
      intro s0_20 s1_20 m_20 z_62
      obtain ⟨hs0_20, hs1_20, e0_20, e1_20⟩ := m_20
      have f21 := (show 0 ≤ I9 0 71 ∧ I9 0 71 ≤ 5 from (hI9 0 71).1)
      have f22 := (show 0 ≤ I9 0 72 ∧ I9 0 72 ≤ 1000 from (hI9 0 72).1)
      have f23 := (show 0 ≤ I9 0 73 ∧ I9 0 73 ≤ 1001 from (hI9 0 73).1)
      have f24 := (show 0 ≤ I9 0 69 ∧ I9 0 69 ≤ 1000 from (hI9 0 69).1)
      have f25 := (show 0 ≤ I9 0 188 ∧ I9 0 188 ≤ 2000 from (hI9 0 188).1)
      have f26 := (show 0 ≤ I9 0 68 ∧ I9 0 68 ≤ 1000 from (hI9 0 68).1)
      have f27 := (show 0 ≤ I9 0 1 ∧ I9 0 1 ≤ 8 from (hI9 0 1).1)
      have f28 := (show 0 ≤ I9 0 2 ∧ I9 0 2 ≤ 32 from (hI9 0 2).1)
      refine gv_run 1 true hD (pc' := 63) (lv' := []) (st' := [.inl (s0_20 - s1_20)]) (h' := gr_h I9 J10) (C := (True ∧ True)) rfl ⟨trivial, trivial⟩ ?_
      exact gv_iret hD rfl ⟨I9, J10, rfl, hI9, FI9, FJ10, KPL_I9, ⟨_, rfl, by omega, by omega, fun _ => ⟨by omega, w0_43, z_62⟩, fun h9 => absurd e1_20 h9⟩⟩
    have f29 := (show 0 ≤ I9 0 71 ∧ I9 0 71 ≤ 5 from (hI9 0 71).1)
    refine gv_run 3 true hD (pc' := 48) (lv' := [(0, .inr (.inr (some 0)))]) (st' := [.inl (I9 0 71), .inl (-1)]) (h' := gr_h I9 J10) (C := (((True ∧ True) ∧ True) ∧ True)) rfl ⟨⟨⟨trivial, trivial⟩, trivial⟩, trivial⟩ ?_
    refine gv_if_ne (t := 58) hD rfl rfl ⟨by omega, by omega⟩ (fun c30 => ?_) (fun c30 => ?_)
    · have f31 := (show 0 ≤ I9 0 72 ∧ I9 0 72 ≤ 1000 from (hI9 0 72).1)
      refine gv_run 2 true hD (pc' := 62) (lv' := [(0, .inr (.inr (some 0)))]) (st' := [.inl (I9 0 72), .inl (-1)]) (h' := gr_h I9 J10) (C := ((True ∧ True) ∧ True)) rfl ⟨⟨trivial, trivial⟩, trivial⟩ ?_
      refine gv_pick [] rfl ?_
      exact L62 (-1) (I9 0 72) (by omega) (by rw [aS, aA])
    · have f32 := (show 0 ≤ I9 0 69 ∧ I9 0 69 ≤ 1000 from (hI9 0 69).1)
      refine gv_run 3 true hD (pc' := 62) (lv' := [(0, .inr (.inr (some 0)))]) (st' := [.inl (I9 0 69), .inl (-1)]) (h' := gr_h I9 J10) (C := (((True ∧ True) ∧ True) ∧ True)) rfl ⟨⟨⟨trivial, trivial⟩, trivial⟩, trivial⟩ ?_
      refine gv_pick [] rfl ?_
      exact L62 (-1) (I9 0 69) (by omega) (by rw [aS, ← aN, gs_A_4 ((gs_k_0 gs_T_p).mp (by omega))])
  have L66 : ∀ (n : Nat) (I33 : gr_I) (J34 : gr_J) (v2_35 : Int), (61 - v2_35).toNat < n → gr_Inv I33 → gr_fr [0, 68, 69, 71, 72, 73, 74, 75, 188] [57, 113, 114, 115] I I33 → gr_fj [0, 68, 69, 71, 72, 73, 74, 75, 188] [57, 113, 114, 115] J J34 → ((0 ≤ a1 ∧ a1 ≤ 7) ∧ (0 ≤ v2_35 ∧ v2_35 ≤ 60) ∧ (I33 0 188 ≤ 60) ∧ (I33 0 68 = 0) ∧ ((0 ≤ a1 ∧ a1 ≤ 7))) → (gr_CPL a1 v2_35 I33) → (gr_SG 1 0 (I33 0 188) I33) → (I33 0 0 = 0 ∧ gt_M β N9 (gt_rf β N9 I J) (gt_ra I) (gt_rk I) (gt_rg I) 60 0 [] = I33 0 188) → gv_X (gr_E ws0 tb 72 (yX13_tree, cX13_tree, 3, (some .int)) kX13_tree) (gv_Q cX13_tree (some .int) (gr_sh ++ ext) (fun r h' => (∃ (I' : gr_I) (J' : gr_J), h' = gr_h I' J' ∧ gr_Inv I' ∧ gr_fr [0, 68, 69, 71, 72, 73, 74, 75, 188] [57, 113, 114, 115] I I' ∧ gr_fj [0, 68, 69, 71, 72, 73, 74, 75, 188] [57, 113, 114, 115] J J' ∧ gr_PL I' ∧ (∃ z : Int, r = some (.inl z) ∧ (-1001) ≤ z ∧ z ≤ 2000 ∧ ((0 ≤ a1 ∧ a1 ≤ 7) → I' 0 68 = 0 ∧ I' 0 0 = 0 ∧ z = gt_M β N9 (gt_rf β N9 I J) (gt_ra I) (gt_rk I) (gt_rg I) 60 0 []) ∧ (¬ (0 ≤ a1 ∧ a1 ≤ 7) → I' 0 68 = I 0 68 ∧ I' 0 0 = 1))))) (66, [(0, .inr (.inr (some 0))), (1, .inl a1), (2, .inl v2_35)], [], gr_sh ++ ext, gr_h I33 J34) := by
    intro n
    induction n with
    | zero => intro I33 J34 v2_35 hn; omega
    | succ n ih66 =>
      intro I33 J34 v2_35 hn hI33 FI33 FJ34 m_35 e1_35 e2_35 w_66
      obtain ⟨ha1_35, hv2_35, e0_35, e3_35, e4_35⟩ := m_35
      have f36 := (show 0 ≤ I33 0 71 ∧ I33 0 71 ≤ 5 from (hI33 0 71).1)
      have f37 := (show 0 ≤ I33 0 72 ∧ I33 0 72 ≤ 1000 from (hI33 0 72).1)
      have f38 := (show 0 ≤ I33 0 73 ∧ I33 0 73 ≤ 1001 from (hI33 0 73).1)
      have f39 := (show 0 ≤ I33 0 69 ∧ I33 0 69 ≤ 1000 from (hI33 0 69).1)
      have f40 := (show 0 ≤ I33 0 188 ∧ I33 0 188 ≤ 2000 from (hI33 0 188).1)
      have f41 := (show 0 ≤ I33 0 68 ∧ I33 0 68 ≤ 1000 from (hI33 0 68).1)
      have f42 := (show 0 ≤ I33 0 1 ∧ I33 0 1 ≤ 8 from (hI33 0 1).1)
      have f43 := (show 0 ≤ I33 0 2 ∧ I33 0 2 ≤ 32 from (hI33 0 2).1)
      have f44 := (show 0 ≤ I33 0 188 ∧ I33 0 188 ≤ 2000 from (hI33 0 188).1)
      refine gv_run 3 true hD (pc' := 71) (lv' := [(0, .inr (.inr (some 0))), (1, .inl a1), (2, .inl v2_35)]) (st' := [.inl (I33 0 188), .inl v2_35]) (h' := gr_h I33 J34) (C := (((True ∧ True) ∧ True) ∧ True)) rfl ⟨⟨⟨trivial, trivial⟩, trivial⟩, trivial⟩ ?_
      refine gv_icmp_ge (t := 97) hD rfl rfl ⟨⟨by omega, by omega⟩, ⟨by omega, by omega⟩⟩ (fun c45 => ?_) (fun c45 => ?_)
      · have f46 := (show 0 ≤ I33 0 188 ∧ I33 0 188 ≤ 2000 from (hI33 0 188).1)
        refine gv_run 5 true hD (pc' := 106) (lv' := [(0, .inr (.inr (some 0))), (1, .inl a1), (2, .inl v2_35)]) (st' := [.inl (I33 0 188), .inl a1, .inr (.inr (some 115))]) (h' := gr_h I33 J34) (C := (((((True ∧ True) ∧ True) ∧ True) ∧ True) ∧ True)) rfl ⟨⟨⟨⟨⟨trivial, trivial⟩, trivial⟩, trivial⟩, trivial⟩, trivial⟩ ?_
        refine gv_run 1 true hD (pc' := 107) (lv' := [(0, .inr (.inr (some 0))), (1, .inl a1), (2, .inl v2_35)]) (st' := []) (h' := gz_up (gr_h I33 J34) 115 (Int.toNat a1) (.inl (I33 0 188))) (C := (True ∧ (0 ≤ a1 ∧ a1 < ((8 : Nat) : Int)))) rfl ⟨trivial, ⟨by omega, by omega⟩⟩ ?_
        refine gr_st hI33 FI33 rfl rfl ⟨⟨by show 0 ≤ _; omega, by show _ ≤ 60; omega⟩, trivial⟩ (fun I47 hI47 FI47 q48 p48 => ?_)
        have t49 := p48 0 71 (fun q => absurd q.1 (by decide))
        have t50 := p48 0 72 (fun q => absurd q.1 (by decide))
        have t51 := p48 0 73 (fun q => absurd q.1 (by decide))
        have t52 := p48 0 69 (fun q => absurd q.1 (by decide))
        have t53 := p48 0 188 (fun q => absurd q.1 (by decide))
        have t54 := p48 0 68 (fun q => absurd q.1 (by decide))
        have t55 := p48 0 1 (fun q => absurd q.1 (by decide))
        have t56 := p48 0 2 (fun q => absurd q.1 (by decide))
        have f57 := (show 0 ≤ I47 0 71 ∧ I47 0 71 ≤ 5 from (hI47 0 71).1)
        have f58 := (show 0 ≤ I47 0 72 ∧ I47 0 72 ≤ 1000 from (hI47 0 72).1)
        have f59 := (show 0 ≤ I47 0 73 ∧ I47 0 73 ≤ 1001 from (hI47 0 73).1)
        have f60 := (show 0 ≤ I47 0 69 ∧ I47 0 69 ≤ 1000 from (hI47 0 69).1)
        have f61 := (show 0 ≤ I47 0 188 ∧ I47 0 188 ≤ 2000 from (hI47 0 188).1)
        have f62 := (show 0 ≤ I47 0 68 ∧ I47 0 68 ≤ 1000 from (hI47 0 68).1)
        have f63 := (show 0 ≤ I47 0 1 ∧ I47 0 1 ≤ 8 from (hI47 0 1).1)
        have f64 := (show 0 ≤ I47 0 2 ∧ I47 0 2 ≤ 32 from (hI47 0 2).1)
        have f65 := (show 0 ≤ I47 0 188 ∧ I47 0 188 ≤ 2000 from (hI47 0 188).1)
        refine gv_run 2 true hD (pc' := 111) (lv' := [(0, .inr (.inr (some 0))), (1, .inl a1), (2, .inl v2_35)]) (st' := [.inl (I47 0 188)]) (h' := gr_h I47 J34) (C := ((True ∧ True) ∧ True)) rfl ⟨⟨trivial, trivial⟩, trivial⟩ ?_
        exact gv_iret hD rfl ⟨I47, J34, rfl, hI47, FI47, FJ34, (gr_PL_end e1_35 e2_35 (by omega) (by omega) p48 q48), ⟨_, rfl, by omega, by omega, fun _ => ⟨by omega, (p48 0 0 (fun q => absurd q.1 (by decide))).trans w_66.1, by rw [w_66.2]; omega⟩, fun h9 => absurd e4_35 h9⟩⟩
      · refine gv_run 7 true hD (pc' := 84) (lv' := [(0, .inr (.inr (some 0))), (1, .inl a1), (2, .inl v2_35)]) (st' := [.inl ((60 * a1) + v2_35), .inr (.inr (some 114))]) (h' := gr_h I33 J34) (C := (((((((True ∧ True) ∧ True) ∧ True) ∧ True) ∧ True) ∧ True) ∧ True)) rfl ⟨⟨⟨⟨⟨⟨⟨trivial, trivial⟩, trivial⟩, trivial⟩, trivial⟩, trivial⟩, trivial⟩, trivial⟩ ?_
        have f66 := (show 0 ≤ I33 113 (Int.toNat v2_35) ∧ I33 113 (Int.toNat v2_35) ≤ 95 from (hI33 113 (Int.toNat v2_35)).1)
        refine gv_run 4 true hD (pc' := 90) (lv' := [(0, .inr (.inr (some 0))), (1, .inl a1), (2, .inl v2_35)]) (st' := [.inl (I33 113 (Int.toNat v2_35)), .inl ((60 * a1) + v2_35), .inr (.inr (some 114))]) (h' := gr_h I33 J34) (C := ((((True ∧ True) ∧ True) ∧ True) ∧ (0 ≤ v2_35 ∧ v2_35 < ((2000 : Nat) : Int)))) rfl ⟨⟨⟨⟨trivial, trivial⟩, trivial⟩, trivial⟩, ⟨by omega, by omega⟩⟩ ?_
        refine gv_run 1 true hD (pc' := 91) (lv' := [(0, .inr (.inr (some 0))), (1, .inl a1), (2, .inl v2_35)]) (st' := []) (h' := gz_up (gr_h I33 J34) 114 (Int.toNat (((60 * a1) + v2_35))) (.inl ((I33 113 (Int.toNat v2_35))))) (C := (True ∧ (0 ≤ (((60 * a1) + v2_35)) ∧ (((60 * a1) + v2_35)) < ((480 : Nat) : Int)))) rfl ⟨trivial, ⟨by omega, by omega⟩⟩ ?_
        refine gr_st hI33 FI33 rfl rfl ⟨⟨by show 0 ≤ _; omega, by show _ ≤ 95; omega⟩, trivial⟩ (fun I67 hI67 FI67 q68 p68 => ?_)
        have t69 := p68 0 71 (fun q => absurd q.1 (by decide))
        have t70 := p68 0 72 (fun q => absurd q.1 (by decide))
        have t71 := p68 0 73 (fun q => absurd q.1 (by decide))
        have t72 := p68 0 69 (fun q => absurd q.1 (by decide))
        have t73 := p68 0 188 (fun q => absurd q.1 (by decide))
        have t74 := p68 0 68 (fun q => absurd q.1 (by decide))
        have t75 := p68 0 1 (fun q => absurd q.1 (by decide))
        have t76 := p68 0 2 (fun q => absurd q.1 (by decide))
        have f77 := (show 0 ≤ I67 0 71 ∧ I67 0 71 ≤ 5 from (hI67 0 71).1)
        have f78 := (show 0 ≤ I67 0 72 ∧ I67 0 72 ≤ 1000 from (hI67 0 72).1)
        have f79 := (show 0 ≤ I67 0 73 ∧ I67 0 73 ≤ 1001 from (hI67 0 73).1)
        have f80 := (show 0 ≤ I67 0 69 ∧ I67 0 69 ≤ 1000 from (hI67 0 69).1)
        have f81 := (show 0 ≤ I67 0 188 ∧ I67 0 188 ≤ 2000 from (hI67 0 188).1)
        have f82 := (show 0 ≤ I67 0 68 ∧ I67 0 68 ≤ 1000 from (hI67 0 68).1)
        have f83 := (show 0 ≤ I67 0 1 ∧ I67 0 1 ≤ 8 from (hI67 0 1).1)
        have f84 := (show 0 ≤ I67 0 2 ∧ I67 0 2 ≤ 32 from (hI67 0 2).1)
        refine gv_run 2 true hD (pc' := 66) (lv' := [(2, .inl (v2_35 + 1)), (0, .inr (.inr (some 0))), (1, .inl a1)]) (st' := []) (h' := gr_h I67 J34) (C := ((True ∧ True) ∧ True)) rfl ⟨⟨trivial, trivial⟩, trivial⟩ ?_
        refine gv_pick [1, 2, 0] rfl ?_
        exact ih66 I67 J34 (v2_35 + 1) (by omega) hI67 FI67 FJ34 (by omega) (gr_CPL_st e1_35 (by omega) (by omega) (by omega) p68 q68) (by rw [show I67 0 188 = I33 0 188 from by omega]; exact gr_SG_fr e2_35 (fun j _ _ => p68 113 j (fun q => absurd q.1 (by decide))) (fun f _ => p68 6 f (fun q => absurd q.1 (by decide))) (Int.le_of_eq (p68 0 3 (fun q => absurd q.1 (by decide))).symm)) ⟨(p68 0 0 (fun q => absurd q.1 (by decide))).trans w_66.1, by rw [w_66.2]; omega⟩
  refine gv_run 2 true hD (pc' := 2) (lv' := [(0, .inr (.inr (some 0))), (1, .inl a1)]) (st' := [.inl a1, .inr (.inr (some 0))]) (h' := gr_h I J) (C := ((True ∧ True) ∧ True)) rfl ⟨⟨trivial, trivial⟩, trivial⟩ ?_
  obtain ⟨r85, h85, E85, P85⟩ := r_noPlace_z (ws0 := ws0) (tb := tb) hws htb ext I J hI a1 ⟨by omega, by omega⟩ 
  obtain ⟨I86, J87, rfl, hI86, g85, k85, ⟨z85, rfl, q85⟩⟩ := P85
  have FI86 := gr_frt FI g85 rfl rfl
  have FJ87 := gr_fjt FJ k85 rfl rfl
  have t88 := g85 0 71 rfl
  have t89 := g85 0 72 rfl
  have t90 := g85 0 73 rfl
  have t91 := g85 0 69 rfl
  have t92 := g85 0 188 rfl
  have t93 := g85 0 68 rfl
  have t94 := g85 0 1 rfl
  have t95 := g85 0 2 rfl
  have f96 := (show 0 ≤ I86 0 71 ∧ I86 0 71 ≤ 5 from (hI86 0 71).1)
  have f97 := (show 0 ≤ I86 0 72 ∧ I86 0 72 ≤ 1000 from (hI86 0 72).1)
  have f98 := (show 0 ≤ I86 0 73 ∧ I86 0 73 ≤ 1001 from (hI86 0 73).1)
  have f99 := (show 0 ≤ I86 0 69 ∧ I86 0 69 ≤ 1000 from (hI86 0 69).1)
  have f100 := (show 0 ≤ I86 0 188 ∧ I86 0 188 ≤ 2000 from (hI86 0 188).1)
  have f101 := (show 0 ≤ I86 0 68 ∧ I86 0 68 ≤ 1000 from (hI86 0 68).1)
  have f102 := (show 0 ≤ I86 0 1 ∧ I86 0 1 ≤ 8 from (hI86 0 1).1)
  have f103 := (show 0 ≤ I86 0 2 ∧ I86 0 2 ≤ 32 from (hI86 0 2).1)
  have KPL_I86 := gr_PL_fr KPL_I (fun k => g85 114 k rfl) (fun k => g85 115 k rfl) (fun k => g85 6 k rfl) (g85 0 3 rfl)
  refine gv_callV hD rfl (As := [.inl a1]) (st := []) rfl (by decide) rfl rfl (gr_lV hws rfl) (Nat.le_of_ble_eq_true rfl) (gz_Ev_mono (d := 1) (by decide) E85) ?_
  show gv_X _ _ (5, [(0, .inr (.inr (some 0))), (1, .inl a1)], [.inl z85], gr_sh ++ ext, gr_h I86 J87)
  refine gv_if_eq (t := 10) hD rfl rfl ⟨by omega, by omega⟩ (fun c104 => ?_) (fun c104 => ?_)
  · refine gv_run 1 true hD (pc' := 11) (lv' := [(0, .inr (.inr (some 0))), (1, .inl a1)]) (st' := [.inr (.inr (some 0))]) (h' := gr_h I86 J87) (C := (True ∧ True)) rfl ⟨trivial, trivial⟩ ?_
    obtain ⟨r105, h105, E105, P105⟩ := r_reads_p (ws0 := ws0) (tb := tb) hws htb ext I86 J87 hI86   
    obtain ⟨I106, J107, rfl, hI106, g105, k105, ⟨rfl, q105⟩⟩ := P105
    have FI106 := gr_frt FI86 g105 rfl rfl
    have FJ107 := gr_fjt FJ87 k105 rfl rfl
    have t108 := g105 0 71 rfl
    have t109 := g105 0 72 rfl
    have t110 := g105 0 73 rfl
    have t111 := g105 0 188 rfl
    have t112 := g105 0 1 rfl
    have t113 := g105 0 2 rfl
    have f114 := (show 0 ≤ I106 0 71 ∧ I106 0 71 ≤ 5 from (hI106 0 71).1)
    have f115 := (show 0 ≤ I106 0 72 ∧ I106 0 72 ≤ 1000 from (hI106 0 72).1)
    have f116 := (show 0 ≤ I106 0 73 ∧ I106 0 73 ≤ 1001 from (hI106 0 73).1)
    have f117 := (show 0 ≤ I106 0 69 ∧ I106 0 69 ≤ 1000 from (hI106 0 69).1)
    have f118 := (show 0 ≤ I106 0 188 ∧ I106 0 188 ≤ 2000 from (hI106 0 188).1)
    have f119 := (show 0 ≤ I106 0 68 ∧ I106 0 68 ≤ 1000 from (hI106 0 68).1)
    have f120 := (show 0 ≤ I106 0 1 ∧ I106 0 1 ≤ 8 from (hI106 0 1).1)
    have f121 := (show 0 ≤ I106 0 2 ∧ I106 0 2 ≤ 32 from (hI106 0 2).1)
    have KPL_I106 := gr_PL_fr KPL_I86 (fun k => g105 114 k rfl) (fun k => g105 115 k rfl) (fun k => g105 6 k rfl) (g105 0 3 rfl)
    refine gv_callV hD rfl (As := []) (st := []) rfl (by decide) rfl rfl (gr_lV hws rfl) (Nat.le_of_ble_eq_true rfl) (gz_Ev_mono (d := 1) (by decide) E105) ?_
    show gv_X _ _ (14, [(0, .inr (.inr (some 0))), (1, .inl a1)], [], gr_sh ++ ext, gr_h I106 J107)
    refine gv_run 3 true hD (pc' := 19) (lv' := [(0, .inr (.inr (some 0))), (1, .inl a1)]) (st' := []) (h' := gz_up (gr_h I106 J107) 0 73 (.inl 0)) (C := (((True ∧ True) ∧ True) ∧ True)) rfl ⟨⟨⟨trivial, trivial⟩, trivial⟩, trivial⟩ ?_
    refine gr_st hI106 FI106 rfl rfl ⟨⟨by show 0 ≤ _; omega, by show _ ≤ 1001; omega⟩, trivial⟩ (fun I122 hI122 FI122 q123 p123 => ?_)
    have t124 := p123 0 71 (by decide)
    have t125 := p123 0 72 (by decide)
    have t126 := p123 0 69 (by decide)
    have t127 := p123 0 188 (by decide)
    have t128 := p123 0 68 (by decide)
    have t129 := p123 0 1 (by decide)
    have t130 := p123 0 2 (by decide)
    have f131 := (show 0 ≤ I122 0 71 ∧ I122 0 71 ≤ 5 from (hI122 0 71).1)
    have f132 := (show 0 ≤ I122 0 72 ∧ I122 0 72 ≤ 1000 from (hI122 0 72).1)
    have f133 := (show 0 ≤ I122 0 73 ∧ I122 0 73 ≤ 1001 from (hI122 0 73).1)
    have f134 := (show 0 ≤ I122 0 69 ∧ I122 0 69 ≤ 1000 from (hI122 0 69).1)
    have f135 := (show 0 ≤ I122 0 188 ∧ I122 0 188 ≤ 2000 from (hI122 0 188).1)
    have f136 := (show 0 ≤ I122 0 68 ∧ I122 0 68 ≤ 1000 from (hI122 0 68).1)
    have f137 := (show 0 ≤ I122 0 1 ∧ I122 0 1 ≤ 8 from (hI122 0 1).1)
    have f138 := (show 0 ≤ I122 0 2 ∧ I122 0 2 ≤ 32 from (hI122 0 2).1)
    have KPL_I122 := gr_PL_fr KPL_I106 (fun k => p123 114 k (fun q => absurd q.1 (by decide))) (fun k => p123 115 k (fun q => absurd q.1 (by decide))) (fun k => p123 6 k (fun q => absurd q.1 (by decide))) (p123 0 3 (by decide))
    have yT : gs_TX β N9 (I122 57) := gs_TX_cp y0 (fun j hj => (p123 57 j (fun h => absurd h.1 (by decide))).trans ((q105.1.2 j (by omega)).trans (g85 56 j rfl)))
    have yN : N9 = I122 0 69 := by omega
    refine gv_run 1 true hD (pc' := 20) (lv' := [(0, .inr (.inr (some 0))), (1, .inl a1)]) (st' := [.inr (.inr (some 0))]) (h' := gr_h I122 J107) (C := (True ∧ True)) rfl ⟨trivial, trivial⟩ ?_
    obtain ⟨r139, h139, E139, P139⟩ := r_next_p (ws0 := ws0) (tb := tb) hws htb ext β N9 I122 J107 hI122 (by omega) yT yN
    obtain ⟨I140, J141, rfl, hI140, g139, k139, ⟨rfl, q139⟩⟩ := P139
    have aT0 : gr_ATp β N9 0 I140 J141 := by
      have h9 := q139.2.2.2.2.2
      rw [show I122 0 73 = 0 from by omega] at h9
      exact h9
    have FI140 := gr_frt FI122 g139 rfl rfl
    have FJ141 := gr_fjt FJ107 k139 rfl rfl
    have t142 := g139 0 69 rfl
    have t143 := g139 0 188 rfl
    have t144 := g139 0 68 rfl
    have t145 := g139 0 1 rfl
    have t146 := g139 0 2 rfl
    have f147 := (show 0 ≤ I140 0 71 ∧ I140 0 71 ≤ 5 from (hI140 0 71).1)
    have f148 := (show 0 ≤ I140 0 72 ∧ I140 0 72 ≤ 1000 from (hI140 0 72).1)
    have f149 := (show 0 ≤ I140 0 73 ∧ I140 0 73 ≤ 1001 from (hI140 0 73).1)
    have f150 := (show 0 ≤ I140 0 69 ∧ I140 0 69 ≤ 1000 from (hI140 0 69).1)
    have f151 := (show 0 ≤ I140 0 188 ∧ I140 0 188 ≤ 2000 from (hI140 0 188).1)
    have f152 := (show 0 ≤ I140 0 68 ∧ I140 0 68 ≤ 1000 from (hI140 0 68).1)
    have f153 := (show 0 ≤ I140 0 1 ∧ I140 0 1 ≤ 8 from (hI140 0 1).1)
    have f154 := (show 0 ≤ I140 0 2 ∧ I140 0 2 ≤ 32 from (hI140 0 2).1)
    have KPL_I140 := gr_PL_fr KPL_I122 (fun k => g139 114 k rfl) (fun k => g139 115 k rfl) (fun k => g139 6 k rfl) (g139 0 3 rfl)
    refine gv_callV hD rfl (As := []) (st := []) rfl (by decide) rfl rfl (gr_lV hws rfl) (Nat.le_of_ble_eq_true rfl) (gz_Ev_mono (d := 10) (by decide) E139) ?_
    show gv_X _ _ (23, [(0, .inr (.inr (some 0))), (1, .inl a1)], [], gr_sh ++ ext, gr_h I140 J141)
    refine gv_run 3 true hD (pc' := 28) (lv' := [(0, .inr (.inr (some 0))), (1, .inl a1)]) (st' := []) (h' := gz_up (gr_h I140 J141) 0 188 (.inl 0)) (C := (((True ∧ True) ∧ True) ∧ True)) rfl ⟨⟨⟨trivial, trivial⟩, trivial⟩, trivial⟩ ?_
    refine gr_st hI140 FI140 rfl rfl ⟨⟨by show 0 ≤ _; omega, by show _ ≤ 2000; omega⟩, trivial⟩ (fun I155 hI155 FI155 q156 p156 => ?_)
    have t157 := p156 0 71 (by decide)
    have t158 := p156 0 72 (by decide)
    have t159 := p156 0 73 (by decide)
    have t160 := p156 0 69 (by decide)
    have t161 := p156 0 68 (by decide)
    have t162 := p156 0 1 (by decide)
    have t163 := p156 0 2 (by decide)
    have f164 := (show 0 ≤ I155 0 71 ∧ I155 0 71 ≤ 5 from (hI155 0 71).1)
    have f165 := (show 0 ≤ I155 0 72 ∧ I155 0 72 ≤ 1000 from (hI155 0 72).1)
    have f166 := (show 0 ≤ I155 0 73 ∧ I155 0 73 ≤ 1001 from (hI155 0 73).1)
    have f167 := (show 0 ≤ I155 0 69 ∧ I155 0 69 ≤ 1000 from (hI155 0 69).1)
    have f168 := (show 0 ≤ I155 0 188 ∧ I155 0 188 ≤ 2000 from (hI155 0 188).1)
    have f169 := (show 0 ≤ I155 0 68 ∧ I155 0 68 ≤ 1000 from (hI155 0 68).1)
    have f170 := (show 0 ≤ I155 0 1 ∧ I155 0 1 ≤ 8 from (hI155 0 1).1)
    have f171 := (show 0 ≤ I155 0 2 ∧ I155 0 2 ≤ 32 from (hI155 0 2).1)
    have KPL_I155 := gr_PL_fr KPL_I140 (fun k => p156 114 k (fun q => absurd q.1 (by decide))) (fun k => p156 115 k (fun q => absurd q.1 (by decide))) (fun k => p156 6 k (fun q => absurd q.1 (by decide))) (p156 0 3 (by decide))
    have aT5 : gr_ATp β N9 0 I155 J141 := ⟨⟨gs_TX_cp aT0.1.1 (fun j _ => p156 57 j (fun q => absurd q.1 (by decide))), aT0.1.2.trans (p156 0 69 (by decide)).symm⟩, (p156 0 71 (by decide)).trans aT0.2.1, (p156 0 72 (by decide)).trans aT0.2.2.1, (p156 0 73 (by decide)).trans aT0.2.2.2.1, fun h => (p156 0 74 (by decide)).trans (aT0.2.2.2.2.1 h), aT0.2.2.2.2.2⟩
    have tB : gt_Tb I155 J141 I J := gt_Tb_fr ⟨rfl, fun _ => rfl, fun _ => rfl, fun _ => rfl, fun _ => rfl⟩ FI155 FJ141 rfl (fun _ => rfl) (fun _ => rfl) (fun _ => rfl) (fun _ => rfl)
    refine gv_run 2 true hD (pc' := 30) (lv' := [(0, .inr (.inr (some 0))), (1, .inl a1)]) (st' := [.inl (-1), .inr (.inr (some 0))]) (h' := gr_h I155 J141) (C := ((True ∧ True) ∧ True)) rfl ⟨⟨trivial, trivial⟩, trivial⟩ ?_
    obtain ⟨r172, h172, E172, P172⟩ := r_noTree_p (ws0 := ws0) (tb := tb) hws htb ext β N9 I J 62 I155 J141 hI155 (-1) ⟨by omega, by omega⟩ (by omega) (by omega) (by omega) (by omega) (by omega) (by omega)  0 aT5 (Int.le_refl 0) tB (by omega)
    obtain ⟨I173, J174, rfl, hI173, g172, k172, ⟨z172, rfl, q172⟩⟩ := P172
    obtain ⟨q9, ⟨bT, bq⟩, kr⟩ : gt_Po β N9 I J (-1) (I155 0 188) 0 I173 J174 z172 := q172.2.2.2.2.2.2.2.2.2.2.2.2.2.2
    have k9 := kr [] (show (-1 : Int) < 0 by omega)
    rw [show Int.toNat (60 - I155 0 188) = 60 from by omega] at k9
    have t0_ : I173 0 0 = 0 := (g172 0 0 rfl).trans ((p156 0 0 (by decide)).trans ((g139 0 0 rfl).trans ((p123 0 0 (by decide)).trans ((g105 0 0 rfl).trans (show I86 0 0 = 0 by omega)))))
    have bK : I173 0 71 = gs_k (gs_T β N9 q9) := bT.2.1
    have FI173 := gr_frt FI155 g172 rfl rfl
    have FJ174 := gr_fjt FJ141 k172 rfl rfl
    have t175 := g172 0 69 rfl
    have t176 := g172 0 68 rfl
    have t177 := g172 0 1 rfl
    have t178 := g172 0 2 rfl
    have f179 := (show 0 ≤ I173 0 71 ∧ I173 0 71 ≤ 5 from (hI173 0 71).1)
    have f180 := (show 0 ≤ I173 0 72 ∧ I173 0 72 ≤ 1000 from (hI173 0 72).1)
    have f181 := (show 0 ≤ I173 0 73 ∧ I173 0 73 ≤ 1001 from (hI173 0 73).1)
    have f182 := (show 0 ≤ I173 0 69 ∧ I173 0 69 ≤ 1000 from (hI173 0 69).1)
    have f183 := (show 0 ≤ I173 0 188 ∧ I173 0 188 ≤ 2000 from (hI173 0 188).1)
    have f184 := (show 0 ≤ I173 0 68 ∧ I173 0 68 ≤ 1000 from (hI173 0 68).1)
    have f185 := (show 0 ≤ I173 0 1 ∧ I173 0 1 ≤ 8 from (hI173 0 1).1)
    have f186 := (show 0 ≤ I173 0 2 ∧ I173 0 2 ≤ 32 from (hI173 0 2).1)
    have KPL_I173 := gr_PL_fr KPL_I155 (fun k => g172 114 k rfl) (fun k => g172 115 k rfl) (fun k => g172 6 k rfl) (g172 0 3 rfl)
    refine gv_callV hD rfl (As := [.inl (-1)]) (st := []) rfl (by decide) rfl rfl (gr_lV hws rfl) (Nat.le_of_ble_eq_true rfl) (gz_Ev_mono (d := 72) (by decide) E172) ?_
    show gv_X _ _ (33, [(0, .inr (.inr (some 0))), (1, .inl a1)], [.inl z172], gr_sh ++ ext, gr_h I173 J174)
    refine gv_if_ne (t := 43) hD rfl rfl ⟨by omega, by omega⟩ (fun c187 => ?_) (fun c187 => ?_)
    · refine gv_pick [0] rfl ?_
      exact L43 I173 J174 hI173 FI173 FJ174 KPL_I173 (by omega) ⟨t0_, q9, bT, k9.2 (by omega)⟩
    · have f188 := (show 0 ≤ I173 0 71 ∧ I173 0 71 ≤ 5 from (hI173 0 71).1)
      refine gv_run 2 true hD (pc' := 40) (lv' := [(0, .inr (.inr (some 0))), (1, .inl a1)]) (st' := [.inl (I173 0 71)]) (h' := gr_h I173 J174) (C := ((True ∧ True) ∧ True)) rfl ⟨⟨trivial, trivial⟩, trivial⟩ ?_
      refine gv_if_eq (t := 64) hD rfl rfl ⟨by omega, by omega⟩ (fun c189 => ?_) (fun c189 => ?_)
      · refine gv_run 2 true hD (pc' := 66) (lv' := [(2, .inl 0), (0, .inr (.inr (some 0))), (1, .inl a1)]) (st' := []) (h' := gr_h I173 J174) (C := ((True ∧ True) ∧ True)) rfl ⟨⟨trivial, trivial⟩, trivial⟩ ?_
        refine gv_pick [1, 2, 0] rfl ?_
        exact L66 _ I173 J174 0 (Nat.lt_succ_self _) hI173 FI173 FJ174 (by omega) (gr_CPL_0 KPL_I173 ⟨by omega, by omega⟩) (by have u9 := gr_o_x q172.2.2.2.2.2.2.2.2.2.2.2.2.2.1 (by omega); rw [show I155 0 188 = 0 from by omega] at u9; exact u9) ⟨t0_, (k9.1 (by omega)).trans (by rw [gt_C_n, if_pos ((gs_k_0 gs_T_p).mp (by omega))])⟩
      · refine gv_pick [0] rfl ?_
        exact L43 I173 J174 hI173 FI173 FJ174 KPL_I173 (by omega) ⟨t0_, q9, bT, (k9.1 (by omega)).trans (by rw [gt_C_n, if_neg (fun h9 => by have h8 := (gs_k_0 (gs_T_p (β := β) (N := N9) (p := q9))).mpr h9; omega)])⟩
  · refine gv_run 1 true hD (pc' := 9) (lv' := [(0, .inr (.inr (some 0))), (1, .inl a1)]) (st' := [.inl 0]) (h' := gr_h I86 J87) (C := (True ∧ True)) rfl ⟨trivial, trivial⟩ ?_
    exact gv_iret hD rfl ⟨I86, J87, rfl, hI86, FI86, FJ87, KPL_I86, ⟨_, rfl, by omega, by omega, fun h9 => absurd h9 (by omega), fun _ => ⟨by omega, by omega⟩⟩⟩
set_option maxHeartbeats 4000000 in
set_option maxRecDepth 100000 in
theorem q_tree_z {ws0 : List Cond} {tb : String → gz_T} (hws : ∀ w ∈ gr_ws, w ∈ ws0) (htb : tb RX13 = gr_T) (ext : gz_Sh) {n : Nat} {I : gr_I} {J : gr_J} (h : gq_St n I) (hn : n < 64) (a1 : Int) (ha1 : (-2147483648) ≤ a1 ∧ a1 ≤ 2147483647) (β : Int → Int) (N9 : Int) (y0 : gs_TX β N9 (I 56)) (y1 : N9 = I 0 68) : ∃ r h', gz_Ev ws0 tb 1000 (yX13_tree, cX13_tree, 3, (some .int)) [.inr (.inr (some 0)), .inl a1] (gr_sh ++ ext) (gr_h I J) r (gr_sh ++ ext) h' 0 0 ∧ (∃ (I' : gr_I) (J' : gr_J), h' = gr_h I' J' ∧ gq_St (n + 1) I' ∧ (gq_T I J I' J' ∧ ∀ k, I' 56 k = I 56 k) ∧ (∃ z : Int, r = some (.inl z) ∧ (-2147483648) ≤ z ∧ z ≤ 2147483647 ∧ ((0 ≤ a1 ∧ a1 ≤ 7) → I' 0 68 = 0 ∧ I' 0 0 = 0 ∧ z = gt_M β N9 (gt_rf β N9 I J) (gt_ra I) (gt_rk I) (gt_rg I) 60 0 []) ∧ (¬ (0 ≤ a1 ∧ a1 ≤ 7) → I' 0 68 = I 0 68 ∧ I' 0 0 = 1))) := by
  obtain ⟨⟨hI, KTM, KVF, KGR, KTO, KFM, KFV, KPL, KOX⟩, KLE, b1, b2, b3, b4, b5⟩ := h
  have rt := (show 0 ≤ I 0 68 ∧ I 0 68 ≤ 1000 from (hI 0 68).1)
  obtain ⟨r, h1, E, P⟩ := r_tree_z (ws0 := ws0) (tb := tb) hws htb ext β N9 I J hI a1 ha1 KPL y0 y1
  obtain ⟨I', J', e1, hI', F, G, KPL', ⟨z, hr, q⟩⟩ := P
  have KTM' := gr_TM_fr KTM (fun k => F 52 k rfl) (fun k => F 53 k rfl) (fun k => F 54 k rfl) (F 0 64 rfl)
  have KVF' := gr_VF_fr KVF (fun k => F 14 k rfl) (fun k => F 13 k rfl)
  have KGR' := gr_GR_fr KGR (fun k => F 19 k rfl) (fun k => F 18 k rfl) (fun k => F 36 k rfl) (fun k => F 41 k rfl) (fun k => F 42 k rfl) (fun k => F 43 k rfl) (fun k => F 45 k rfl) (fun k => F 46 k rfl) (fun k => F 47 k rfl) (fun k => F 6 k rfl) (fun k => F 7 k rfl) (fun k => F 8 k rfl) (F 0 3 rfl)
  have KTO' := gr_TO_fr KTO (fun k => F 52 k rfl) (fun k => F 53 k rfl) (fun k => F 54 k rfl) (fun k => F 55 k rfl) (fun k => F 6 k rfl) (F 0 64 rfl) (F 0 3 rfl)
  have KFM' := gr_FM_fr KFM (fun k => F 10 k rfl) (fun k => F 55 k rfl) (fun k => F 52 k rfl) (fun k => F 53 k rfl) (fun k => F 54 k rfl) (F 0 64 rfl) (F 0 3 rfl)
  have KFV' := gr_FV_fr KFV (fun k => F 87 k rfl) (fun k => F 88 k rfl) (fun k => F 104 k rfl) (fun k => F 90 k rfl) (fun k => F 91 k rfl) (fun k => F 92 k rfl) (fun k => F 94 k rfl) (fun k => F 95 k rfl) (fun k => F 97 k rfl) (fun k => F 98 k rfl) (fun k => F 19 k rfl) (fun k => F 18 k rfl) (fun k => F 41 k rfl) (fun k => F 6 k rfl) (fun k => F 99 k rfl) (fun k => F 105 k rfl) (fun k => F 107 k rfl) (fun k => F 108 k rfl) (fun k => F 110 k rfl) (fun k => F 111 k rfl) (F 0 157 rfl) (F 0 158 rfl) (F 0 177 rfl) (F 0 186 rfl) (F 0 159 rfl) hI
  have KOX' := gr_OX_fr KOX (fun k => F 121 k rfl) (fun k => F 120 k rfl)
  have e59 := F 0 59 rfl
  have e42 := F 0 42 rfl
  have e64 := F 0 64 rfl
  have e100 := F 0 100 rfl
  have eC := F 0 206 rfl
  have KLE' : gr_LE (20 * ((n + 1 : Nat) : Int)) I' := gr_LE_tp KLE (fun k => F 19 k rfl) (by omega)
  exact ⟨r, h1, gz_Ev_mono (d := 73) (by decide) E, I', J', e1, ⟨⟨hI', KTM', KVF', KGR', KTO', KFM', KFV', KPL', KOX'⟩, KLE', by omega, by omega, by omega, by omega, by omega⟩, ⟨gq_Tof F G (by decide) (by decide), fun k => F 56 k rfl⟩, ⟨z, hr, by omega, by omega, q.2.2.1, q.2.2.2⟩⟩
set_option maxHeartbeats 4000000 in
set_option maxRecDepth 100000 in
theorem d_X6_kindWanted_p {ws0 : List Cond} {tb : String → gz_T} (hws : gc_Ws ws0) (htb : gc_tbs tb) (sh : gz_Sh) (ro : Nat → Nat) (I : gr_I) (J : gr_J) (A : gc_A) (hI : gc_Inv ro I) (a1 : Int) (hb : gc_Base sh ro A) (ha1 : 0 ≤ a1 ∧ a1 ≤ 59) (x0 : 0 ≤ I 47 (Int.toNat a1) ∧ I 47 (Int.toNat a1) ≤ 3) : ∃ r h', gz_Ev ws0 tb 1 (yX6_kindWanted, cX6_kindWanted, 2, (some .int)) [.inr (.inr (some 39)), .inl a1] sh (gc_h sh I J A) r sh h' 0 0 ∧ (h' = gc_h sh I J A ∧ (∃ z : Int, r = some (.inl z) ∧ 0 ≤ z ∧ z ≤ 31 ∧ z = gt_cg I (I 46 (Int.toNat a1)) (I 47 (Int.toNat a1)))) := by
  have A_1_8 : A 1 8 = some 13 := gc_bA hb rfl
  have A_39_0 : A 39 0 = some 1 := gc_bA hb rfl
  have A_39_17 : A 39 17 = some 46 := gc_bA hb rfl
  have A_39_18 : A 39 18 = some 47 := gc_bA hb rfl
  have B_1 : 1 < 1000000 := by decide
  have B_13 : 13 < 1000000 := by decide
  have B_39 : 39 < 1000000 := by decide
  have B_46 : 46 < 1000000 := by decide
  have B_47 : 47 < 1000000 := by decide
  have R_13 : ro 13 = 25 := gc_bR hb (by decide) rfl
  have R_46 : ro 46 = 37 := gc_bR hb (by decide) rfl
  have R_47 : ro 47 = 0 := gc_bR hb (by decide) rfl
  have S_1 : sh[1]? = some (false, 8, 21) := gc_bS hb rfl
  have S_13 : sh[13]? = some (true, 1, 384) := gc_bS hb rfl
  have S_39 : sh[39]? = some (false, 6, 19) := gc_bS hb rfl
  have S_46 : sh[46]? = some (true, 1, 60) := gc_bS hb rfl
  have S_47 : sh[47]? = some (true, 1, 60) := gc_bS hb rfl
  have hD : gv_D (gc_E6 ws0 tb 0 (yX6_kindWanted, cX6_kindWanted, 2, (some .int)) kX6_kindWanted) := gq_ok oX6_kindWanted
  refine gc_ev6 (d := 0) (l := kX6_kindWanted) (Po := fun r h' => (h' = gc_h sh I J A ∧ (∃ z : Int, r = some (.inl z) ∧ 0 ≤ z ∧ z ≤ 31 ∧ z = gt_cg I (I 46 (Int.toNat a1)) (I 47 (Int.toNat a1))))) htb rfl (Nat.le_of_ble_eq_true rfl) ?_
  refine gv_run 1 true hD (pc' := 1) (lv' := [(0, .inr (.inr (some 39))), (1, .inl a1)]) (st' := [.inr (.inr (some 39))]) (h' := gc_h sh I J A) (C := (True ∧ True)) rfl ⟨trivial, trivial⟩ ?_
  refine gv_get hD rfl rfl S_39 ⟨by decide, B_39⟩ (gc_hA S_39 rfl A_39_0) ?_
  show gv_X _ _ (4, [(0, .inr (.inr (some 39))), (1, .inl a1)], [.inr (.inr (some 1))], sh, gc_h sh I J A)
  refine gv_get hD rfl rfl S_1 ⟨by decide, B_1⟩ (gc_hA S_1 rfl A_1_8) ?_
  show gv_X _ _ (7, [(0, .inr (.inr (some 39))), (1, .inl a1)], [.inr (.inr (some 13))], sh, gc_h sh I J A)
  refine gv_run 1 true hD (pc' := 8) (lv' := [(0, .inr (.inr (some 39))), (1, .inl a1)]) (st' := [.inr (.inr (some 39)), .inr (.inr (some 13))]) (h' := gc_h sh I J A) (C := (True ∧ True)) rfl ⟨trivial, trivial⟩ ?_
  refine gv_get hD rfl rfl S_39 ⟨by decide, B_39⟩ (gc_hA S_39 rfl A_39_17) ?_
  show gv_X _ _ (11, [(0, .inr (.inr (some 39))), (1, .inl a1)], [.inr (.inr (some 46)), .inr (.inr (some 13))], sh, gc_h sh I J A)
  refine gv_run 1 true hD (pc' := 12) (lv' := [(0, .inr (.inr (some 39))), (1, .inl a1)]) (st' := [.inl a1, .inr (.inr (some 46)), .inr (.inr (some 13))]) (h' := gc_h sh I J A) (C := (True ∧ True)) rfl ⟨trivial, trivial⟩ ?_
  have f1 := (show 0 ≤ I 46 (Int.toNat a1) ∧ I 46 (Int.toNat a1) ≤ 95 from gc_in hI R_46 rfl rfl)
  refine gv_iald hD rfl S_46 rfl ⟨by decide, B_46⟩ ⟨by omega, by omega⟩ (gc_iI S_46 rfl) ?_
  show gv_X _ _ (13, [(0, .inr (.inr (some 39))), (1, .inl a1)], [.inl (I 46 (Int.toNat a1)), .inr (.inr (some 13))], sh, gc_h sh I J A)
  refine gv_run 3 true hD (pc' := 16) (lv' := [(0, .inr (.inr (some 39))), (1, .inl a1)]) (st' := [.inr (.inr (some 39)), .inl ((I 46 (Int.toNat a1)) * 4), .inr (.inr (some 13))]) (h' := gc_h sh I J A) (C := (((True ∧ True) ∧ True) ∧ True)) rfl ⟨⟨⟨trivial, trivial⟩, trivial⟩, trivial⟩ ?_
  refine gv_get hD rfl rfl S_39 ⟨by decide, B_39⟩ (gc_hA S_39 rfl A_39_18) ?_
  show gv_X _ _ (19, [(0, .inr (.inr (some 39))), (1, .inl a1)], [.inr (.inr (some 47)), .inl ((I 46 (Int.toNat a1)) * 4), .inr (.inr (some 13))], sh, gc_h sh I J A)
  refine gv_run 1 true hD (pc' := 20) (lv' := [(0, .inr (.inr (some 39))), (1, .inl a1)]) (st' := [.inl a1, .inr (.inr (some 47)), .inl ((I 46 (Int.toNat a1)) * 4), .inr (.inr (some 13))]) (h' := gc_h sh I J A) (C := (True ∧ True)) rfl ⟨trivial, trivial⟩ ?_
  have f2 := (show (-2147483648) ≤ I 47 (Int.toNat a1) ∧ I 47 (Int.toNat a1) ≤ 2147483647 from gc_in hI R_47 rfl rfl)
  refine gv_iald hD rfl S_47 rfl ⟨by decide, B_47⟩ ⟨by omega, by omega⟩ (gc_iI S_47 rfl) ?_
  show gv_X _ _ (21, [(0, .inr (.inr (some 39))), (1, .inl a1)], [.inl (I 47 (Int.toNat a1)), .inl ((I 46 (Int.toNat a1)) * 4), .inr (.inr (some 13))], sh, gc_h sh I J A)
  refine gv_run 1 true hD (pc' := 22) (lv' := [(0, .inr (.inr (some 39))), (1, .inl a1)]) (st' := [.inl (((I 46 (Int.toNat a1)) * 4) + (I 47 (Int.toNat a1))), .inr (.inr (some 13))]) (h' := gc_h sh I J A) (C := (True ∧ True)) rfl ⟨trivial, trivial⟩ ?_
  have f3 := (show 0 ≤ I 13 (Int.toNat ((((I 46 (Int.toNat a1)) * 4) + (I 47 (Int.toNat a1))))) ∧ I 13 (Int.toNat ((((I 46 (Int.toNat a1)) * 4) + (I 47 (Int.toNat a1))))) ≤ 31 from gc_in hI R_13 rfl rfl)
  refine gv_iald hD rfl S_13 rfl ⟨by decide, B_13⟩ ⟨by omega, by omega⟩ (gc_iI S_13 rfl) ?_
  show gv_X _ _ (23, [(0, .inr (.inr (some 39))), (1, .inl a1)], [.inl (I 13 (Int.toNat ((((I 46 (Int.toNat a1)) * 4) + (I 47 (Int.toNat a1))))))], sh, gc_h sh I J A)
  exact gv_iret hD rfl ⟨rfl, ⟨_, rfl, by omega, by omega, rfl⟩⟩
/-- what closeArguments tells -/
def gt_Cp (β : Int → Int) (η : Int) (I : gr_I) (a1 p9 : Int) (I' : gr_I) (J' : gr_J) (z : Int) : Prop := ∃ q, gc_AT β η q 23 I' J' ∧ ∀ k v, (z = -1 → gt_C β η (gt_ca I) k v (gt_st I (Int.toNat a1)) p9 = -1 - gs_A β η q) ∧ (z = 0 → gt_C β η (gt_ca I) k v (gt_st I (Int.toNat a1)) p9 = gt_C β η (gt_ca I) k v [] q) ∧ (1 ≤ z → gt_C β η (gt_ca I) k v (gt_st I (Int.toNat a1)) p9 = k q (gt_st I' (Int.toNat z)))
set_option maxHeartbeats 4000000 in
set_option maxRecDepth 100000 in
theorem d_X6_closeArguments_p {ws0 : List Cond} {tb : String → gz_T} (hws : gc_Ws ws0) (htb : gc_tbs tb) (sh : gz_Sh) (ro : Nat → Nat) (I : gr_I) (J : gr_J) (A : gc_A) (hI : gc_Inv ro I) (a1 : Int) (β : Int → Int) (η : Int) (p9 : Int) (hb : gc_Base sh ro A) (ha1 : 0 ≤ a1 ∧ a1 ≤ 60) (x0 : gc_SE I a1) (KLT_I : gc_LT I) (KTK_I : gc_TK I) (y0 : gc_AT β η p9 23 I J) : ∃ r h', gz_Ev ws0 tb 3 (yX6_closeArguments, cX6_closeArguments, 4, (some .int)) [.inr (.inr (some 39)), .inl a1] sh (gc_h sh I J A) r sh h' 0 0 ∧ (∃ (I' : gr_I) (J' : gr_J), h' = gc_h sh I' J' A ∧ gc_Inv ro I' ∧ (∀ q j : Nat, ((q = 39 ∧ j = 3) ∨ (q = 39 ∧ j = 4) ∨ (q = 23 ∧ j = 5) ∨ (q = 23 ∧ j = 6) ∨ (q = 23 ∧ j = 7) ∨ (q = 23 ∧ j = 8) ∨ q = 47) ∨ I' q j = I q j) ∧ (∀ q j : Nat, ((q = 23 ∧ j = 9)) ∨ J' q j = J q j) ∧ gc_LT I' ∧ gc_TK I' ∧ (∃ z : Int, r = some (.inl z) ∧ (-1) ≤ z ∧ z ≤ 60 ∧ (I' 23 1 = I 23 1) ∧ (I 23 5 ≤ I' 23 5) ∧ (z ≤ a1) ∧ (gc_SE I' z) ∧ (z = 0 → gc_ss I (Int.toNat a1) = 0) ∧ (1 ≤ z → gc_ss I' (Int.toNat z) = gc_ss I (Int.toNat a1) - 1) ∧ (gt_Cp β η I a1 p9 I' J' z))) := by
  have FI : ∀ q j : Nat, ((q = 39 ∧ j = 3) ∨ (q = 39 ∧ j = 4) ∨ (q = 23 ∧ j = 5) ∨ (q = 23 ∧ j = 6) ∨ (q = 23 ∧ j = 7) ∨ (q = 23 ∧ j = 8) ∨ q = 47) ∨ I q j = I q j := fun _ _ => Or.inr rfl
  have FJ : ∀ q j : Nat, ((q = 23 ∧ j = 9)) ∨ J q j = J q j := fun _ _ => Or.inr rfl
  have A_1_7 : A 1 7 = some 12 := gc_bA hb rfl
  have A_39_0 : A 39 0 = some 1 := gc_bA hb rfl
  have A_39_1 : A 39 1 = some 23 := gc_bA hb rfl
  have A_39_17 : A 39 17 = some 46 := gc_bA hb rfl
  have A_39_18 : A 39 18 = some 47 := gc_bA hb rfl
  have B_1 : 1 < 1000000 := by decide
  have B_12 : 12 < 1000000 := by decide
  have B_23 : 23 < 1000000 := by decide
  have B_39 : 39 < 1000000 := by decide
  have B_46 : 46 < 1000000 := by decide
  have B_47 : 47 < 1000000 := by decide
  have R_12 : ro 12 = 26 := gc_bR hb (by decide) rfl
  have R_23 : ro 23 = 3 := gc_bR hb (by decide) rfl
  have R_46 : ro 46 = 37 := gc_bR hb (by decide) rfl
  have R_47 : ro 47 = 0 := gc_bR hb (by decide) rfl
  have S_1 : sh[1]? = some (false, 8, 21) := gc_bS hb rfl
  have S_12 : sh[12]? = some (true, 1, 96) := gc_bS hb rfl
  have S_23 : sh[23]? = some (false, 9, 10) := gc_bS hb rfl
  have S_39 : sh[39]? = some (false, 6, 19) := gc_bS hb rfl
  have S_46 : sh[46]? = some (true, 1, 60) := gc_bS hb rfl
  have S_47 : sh[47]? = some (true, 1, 60) := gc_bS hb rfl
  have hD : gv_D (gc_E6 ws0 tb 2 (yX6_closeArguments, cX6_closeArguments, 4, (some .int)) kX6_closeArguments) := gq_ok oX6_closeArguments
  refine gc_ev6 (d := 2) (l := kX6_closeArguments) (Po := fun r h' => (∃ (I' : gr_I) (J' : gr_J), h' = gc_h sh I' J' A ∧ gc_Inv ro I' ∧ (∀ q j : Nat, ((q = 39 ∧ j = 3) ∨ (q = 39 ∧ j = 4) ∨ (q = 23 ∧ j = 5) ∨ (q = 23 ∧ j = 6) ∨ (q = 23 ∧ j = 7) ∨ (q = 23 ∧ j = 8) ∨ q = 47) ∨ I' q j = I q j) ∧ (∀ q j : Nat, ((q = 23 ∧ j = 9)) ∨ J' q j = J q j) ∧ gc_LT I' ∧ gc_TK I' ∧ (∃ z : Int, r = some (.inl z) ∧ (-1) ≤ z ∧ z ≤ 60 ∧ (I' 23 1 = I 23 1) ∧ (I 23 5 ≤ I' 23 5) ∧ (z ≤ a1) ∧ (gc_SE I' z) ∧ (z = 0 → gc_ss I (Int.toNat a1) = 0) ∧ (1 ≤ z → gc_ss I' (Int.toNat z) = gc_ss I (Int.toNat a1) - 1) ∧ (gt_Cp β η I a1 p9 I' J' z)))) htb rfl (Nat.le_of_ble_eq_true rfl) ?_
  have t1 := gc_TK_mo KTK_I
  have f2 := (show 0 ≤ I 23 1 ∧ I 23 1 ≤ 1000 from gc_in hI R_23 rfl rfl)
  have f3 := (show 0 ≤ I 23 5 ∧ I 23 5 ≤ 1000 from gc_in hI R_23 rfl rfl)
  have f4 := (show 0 ≤ I 23 6 ∧ I 23 6 ≤ 1001 from gc_in hI R_23 rfl rfl)
  have f5 := (show 0 ≤ I 23 7 ∧ I 23 7 ≤ 125 from gc_in hI R_23 rfl rfl)
  have L2 : ∀ (n9 : Nat) (I6 : gr_I) (J7 : gr_J) (v2_8 : Int), (v2_8).toNat < n9 → gc_Inv ro I6 → (∀ q j : Nat, ((q = 39 ∧ j = 3) ∨ (q = 39 ∧ j = 4) ∨ (q = 23 ∧ j = 5) ∨ (q = 23 ∧ j = 6) ∨ (q = 23 ∧ j = 7) ∨ (q = 23 ∧ j = 8) ∨ q = 47) ∨ I6 q j = I q j) → (∀ q j : Nat, ((q = 23 ∧ j = 9)) ∨ J7 q j = J q j) → gc_LT I6 → gc_TK I6 → ((0 ≤ v2_8 ∧ v2_8 ≤ 60) ∧ (v2_8 ≤ a1) ∧ (I6 23 1 = I 23 1) ∧ (I 23 5 ≤ I6 23 5)) → (gc_SE I6 v2_8) → (gc_ss I6 (Int.toNat v2_8) = gc_ss I (Int.toNat a1)) → (∃ q9, gc_AT β η q9 23 I6 J7 ∧ ∀ k v, gt_C β η (gt_ca I) k v (gt_st I (Int.toNat a1)) p9 = gt_C β η (gt_ca I) k v (gt_st I6 (Int.toNat v2_8)) q9) → gv_X (gc_E6 ws0 tb 2 (yX6_closeArguments, cX6_closeArguments, 4, (some .int)) kX6_closeArguments) (gv_Q cX6_closeArguments (some .int) sh (fun r h' => (∃ (I' : gr_I) (J' : gr_J), h' = gc_h sh I' J' A ∧ gc_Inv ro I' ∧ (∀ q j : Nat, ((q = 39 ∧ j = 3) ∨ (q = 39 ∧ j = 4) ∨ (q = 23 ∧ j = 5) ∨ (q = 23 ∧ j = 6) ∨ (q = 23 ∧ j = 7) ∨ (q = 23 ∧ j = 8) ∨ q = 47) ∨ I' q j = I q j) ∧ (∀ q j : Nat, ((q = 23 ∧ j = 9)) ∨ J' q j = J q j) ∧ gc_LT I' ∧ gc_TK I' ∧ (∃ z : Int, r = some (.inl z) ∧ (-1) ≤ z ∧ z ≤ 60 ∧ (I' 23 1 = I 23 1) ∧ (I 23 5 ≤ I' 23 5) ∧ (z ≤ a1) ∧ (gc_SE I' z) ∧ (z = 0 → gc_ss I (Int.toNat a1) = 0) ∧ (1 ≤ z → gc_ss I' (Int.toNat z) = gc_ss I (Int.toNat a1) - 1) ∧ (gt_Cp β η I a1 p9 I' J' z))))) (2, [(0, .inr (.inr (some 39))), (2, .inl v2_8)], [], sh, gc_h sh I6 J7 A) := by
    intro n9
    induction n9 with
    | zero => intro I6 J7 v2_8 hn; omega
    | succ n9 ih2 =>
      intro I6 J7 v2_8 hn hI6 FI6 FJ7 KLT_I6 KTK_I6 m_8 e0_8 e1_8 k_8
      obtain ⟨hv2_8, e2_8, e3_8, e4_8⟩ := m_8
      have t9 := gc_TK_mo KTK_I6
      have f10 := (show 0 ≤ I6 23 1 ∧ I6 23 1 ≤ 1000 from gc_in hI6 R_23 rfl rfl)
      have f11 := (show 0 ≤ I6 23 5 ∧ I6 23 5 ≤ 1000 from gc_in hI6 R_23 rfl rfl)
      have f12 := (show 0 ≤ I6 23 6 ∧ I6 23 6 ≤ 1001 from gc_in hI6 R_23 rfl rfl)
      have f13 := (show 0 ≤ I6 23 7 ∧ I6 23 7 ≤ 125 from gc_in hI6 R_23 rfl rfl)
      have L50 : ∀ (I14 : gr_I) (J15 : gr_J) (s0_16 : Int), gc_Inv ro I14 → (∀ q j : Nat, ((q = 39 ∧ j = 3) ∨ (q = 39 ∧ j = 4) ∨ (q = 23 ∧ j = 5) ∨ (q = 23 ∧ j = 6) ∨ (q = 23 ∧ j = 7) ∨ (q = 23 ∧ j = 8) ∨ q = 47) ∨ I14 q j = I q j) → (∀ q j : Nat, ((q = 23 ∧ j = 9)) ∨ J15 q j = J q j) → gc_LT I14 → gc_TK I14 → ((1 ≤ v2_8 ∧ v2_8 ≤ 60) ∧ (0 ≤ s0_16 ∧ s0_16 ≤ 1) ∧ (1 ≤ v2_8) ∧ (0 ≤ I14 47 (Int.toNat (v2_8 - 1))) ∧ (I14 47 (Int.toNat (v2_8 - 1)) ≤ I14 12 (Int.toNat (I14 46 (Int.toNat (v2_8 - 1))))) ∧ (s0_16 = 0 ∨ I14 47 (Int.toNat (v2_8 - 1)) < I14 12 (Int.toNat (I14 46 (Int.toNat (v2_8 - 1))))) ∧ (s0_16 = 1 ∨ I14 47 (Int.toNat (v2_8 - 1)) = I14 12 (Int.toNat (I14 46 (Int.toNat (v2_8 - 1))))) ∧ (v2_8 ≤ a1) ∧ (I14 23 1 = I 23 1) ∧ (I 23 5 ≤ I14 23 5)) → (gc_SE I14 (v2_8 - 1)) → (gc_ss I14 (Int.toNat v2_8) = gc_ss I (Int.toNat a1) - 1) → (∃ q9, gc_AT β η q9 23 I14 J15 ∧ ∀ k v, gt_C β η (gt_ca I) k v (gt_st I (Int.toNat a1)) p9 = (if I14 47 (Int.toNat (v2_8 - 1)) < gt_ca I (I14 46 (Int.toNat (v2_8 - 1))) then (if gs_T β η q9 = 44 then k (gs_X β η q9) (gt_st I14 (Int.toNat v2_8)) else -1 - gs_A β η q9) else (if gs_T β η q9 = 41 then gt_C β η (gt_ca I) k v (gt_st I14 (Int.toNat (v2_8 - 1))) (gs_X β η q9) else -1 - gs_A β η q9))) → gv_X (gc_E6 ws0 tb 2 (yX6_closeArguments, cX6_closeArguments, 4, (some .int)) kX6_closeArguments) (gv_Q cX6_closeArguments (some .int) sh (fun r h' => (∃ (I' : gr_I) (J' : gr_J), h' = gc_h sh I' J' A ∧ gc_Inv ro I' ∧ (∀ q j : Nat, ((q = 39 ∧ j = 3) ∨ (q = 39 ∧ j = 4) ∨ (q = 23 ∧ j = 5) ∨ (q = 23 ∧ j = 6) ∨ (q = 23 ∧ j = 7) ∨ (q = 23 ∧ j = 8) ∨ q = 47) ∨ I' q j = I q j) ∧ (∀ q j : Nat, ((q = 23 ∧ j = 9)) ∨ J' q j = J q j) ∧ gc_LT I' ∧ gc_TK I' ∧ (∃ z : Int, r = some (.inl z) ∧ (-1) ≤ z ∧ z ≤ 60 ∧ (I' 23 1 = I 23 1) ∧ (I 23 5 ≤ I' 23 5) ∧ (z ≤ a1) ∧ (gc_SE I' z) ∧ (z = 0 → gc_ss I (Int.toNat a1) = 0) ∧ (1 ≤ z → gc_ss I' (Int.toNat z) = gc_ss I (Int.toNat a1) - 1) ∧ (gt_Cp β η I a1 p9 I' J' z))))) (50, [(0, .inr (.inr (some 39))), (2, .inl v2_8)], [.inl s0_16], sh, gc_h sh I14 J15 A) := by
        intro I14 J15 s0_16 hI14 FI14 FJ15 KLT_I14 KTK_I14 m_16 e0_16 e1_16 k_16
        clear hv2_8 e2_8 e3_8 e4_8 t9 f10 f11 f12 f13
        obtain ⟨hv2_8_16, hs0_16, e2_16, e3_16, e4_16, e5_16, e6_16, e7_16, e8_16, e9_16⟩ := m_16
        have t17 := gc_TK_mo KTK_I14
        have f18 := (show 0 ≤ I14 23 1 ∧ I14 23 1 ≤ 1000 from gc_in hI14 R_23 rfl rfl)
        have f19 := (show 0 ≤ I14 23 5 ∧ I14 23 5 ≤ 1000 from gc_in hI14 R_23 rfl rfl)
        have f20 := (show 0 ≤ I14 23 6 ∧ I14 23 6 ≤ 1001 from gc_in hI14 R_23 rfl rfl)
        have f21 := (show 0 ≤ I14 23 7 ∧ I14 23 7 ≤ 125 from gc_in hI14 R_23 rfl rfl)
        obtain ⟨q9, aT, kw⟩ := k_16
        have aK : I14 23 7 = gs_T β η q9 := aT.2.1
        have aA : gt_ca I (I14 46 (Int.toNat (v2_8 - 1))) = I14 12 (Int.toNat (I14 46 (Int.toNat (v2_8 - 1)))) := ((FI14 12 (Int.toNat (I14 46 (Int.toNat (v2_8 - 1))))).resolve_left (by omega)).symm
        have L69 : ∀ (v3_22 : Int) (s0_22 : Int) (s1_22 : Int), ((1 ≤ v2_8 ∧ v2_8 ≤ 60) ∧ (0 ≤ v3_22 ∧ v3_22 ≤ 1) ∧ (0 ≤ s0_22 ∧ s0_22 ≤ 125) ∧ (41 ≤ s1_22 ∧ s1_22 ≤ 44) ∧ (1 ≤ v2_8) ∧ (0 ≤ I14 47 (Int.toNat (v2_8 - 1))) ∧ (v3_22 = 0 ∨ I14 47 (Int.toNat (v2_8 - 1)) < I14 12 (Int.toNat (I14 46 (Int.toNat (v2_8 - 1))))) ∧ (v3_22 = 1 ∨ I14 47 (Int.toNat (v2_8 - 1)) = I14 12 (Int.toNat (I14 46 (Int.toNat (v2_8 - 1))))) ∧ (s1_22 = 44 ∨ s1_22 = 41) ∧ (s0_22 = I14 23 7) ∧ (v2_8 ≤ a1) ∧ (I14 23 1 = I 23 1) ∧ (I 23 5 ≤ I14 23 5)) → ((v3_22 = 1 ∧ s1_22 = 44) ∨ (v3_22 = 0 ∧ s1_22 = 41)) → gv_X (gc_E6 ws0 tb 2 (yX6_closeArguments, cX6_closeArguments, 4, (some .int)) kX6_closeArguments) (gv_Q cX6_closeArguments (some .int) sh (fun r h' => (∃ (I' : gr_I) (J' : gr_J), h' = gc_h sh I' J' A ∧ gc_Inv ro I' ∧ (∀ q j : Nat, ((q = 39 ∧ j = 3) ∨ (q = 39 ∧ j = 4) ∨ (q = 23 ∧ j = 5) ∨ (q = 23 ∧ j = 6) ∨ (q = 23 ∧ j = 7) ∨ (q = 23 ∧ j = 8) ∨ q = 47) ∨ I' q j = I q j) ∧ (∀ q j : Nat, ((q = 23 ∧ j = 9)) ∨ J' q j = J q j) ∧ gc_LT I' ∧ gc_TK I' ∧ (∃ z : Int, r = some (.inl z) ∧ (-1) ≤ z ∧ z ≤ 60 ∧ (I' 23 1 = I 23 1) ∧ (I 23 5 ≤ I' 23 5) ∧ (z ≤ a1) ∧ (gc_SE I' z) ∧ (z = 0 → gc_ss I (Int.toNat a1) = 0) ∧ (1 ≤ z → gc_ss I' (Int.toNat z) = gc_ss I (Int.toNat a1) - 1) ∧ (gt_Cp β η I a1 p9 I' J' z))))) (69, [(0, .inr (.inr (some 39))), (2, .inl v2_8), (3, .inl v3_22)], [.inl s1_22, .inl s0_22], sh, gc_h sh I14 J15 A) := by
          intro v3_22 s0_22 s1_22 m_22 o_22
          obtain ⟨hv2_8_22, hv3_22, hs0_22, hs1_22, e0_22, e1_22, e2_22, e3_22, e4_22, e5_22, e6_22, e7_22, e8_22⟩ := m_22
          have t23 := gc_TK_mo KTK_I14
          have f24 := (show 0 ≤ I14 23 1 ∧ I14 23 1 ≤ 1000 from gc_in hI14 R_23 rfl rfl)
          have f25 := (show 0 ≤ I14 23 5 ∧ I14 23 5 ≤ 1000 from gc_in hI14 R_23 rfl rfl)
          have f26 := (show 0 ≤ I14 23 6 ∧ I14 23 6 ≤ 1001 from gc_in hI14 R_23 rfl rfl)
          have f27 := (show 0 ≤ I14 23 7 ∧ I14 23 7 ≤ 125 from gc_in hI14 R_23 rfl rfl)
          refine gv_icmp_eq (t := 74) hD rfl rfl ⟨⟨by omega, by omega⟩, ⟨by omega, by omega⟩⟩ (fun c28 => ?_) (fun c28 => ?_)
          · show gv_X _ _ (74, [(0, .inr (.inr (some 39))), (2, .inl v2_8), (3, .inl v3_22)], [], sh, gc_h sh I14 J15 A)
            refine gv_run 1 true hD (pc' := 75) (lv' := [(0, .inr (.inr (some 39))), (2, .inl v2_8), (3, .inl v3_22)]) (st' := [.inr (.inr (some 39))]) (h' := gc_h sh I14 J15 A) (C := (True ∧ True)) rfl ⟨trivial, trivial⟩ ?_
            refine gv_get hD rfl rfl S_39 ⟨by decide, B_39⟩ (gc_hA S_39 rfl A_39_1) ?_
            show gv_X _ _ (78, [(0, .inr (.inr (some 39))), (2, .inl v2_8), (3, .inl v3_22)], [.inr (.inr (some 23))], sh, gc_h sh I14 J15 A)
            have t30 := gc_TK_nx KTK_I14 (by omega)
            obtain ⟨r29, h29, E29, P29⟩ := d_X9_advance_p (ws0 := ws0) (tb := tb) hws htb sh ro I14 J15 A hI14 23 β η (gc_b23 hb) (by omega) aT.1.1 aT.1.2
            obtain ⟨I31, J32, rfl, hI31, g29, k29, ⟨rfl, V29_0, V29_1, V29_2, V29_3, V29_4, q29⟩⟩ := P29
            have FI31 := gc_frc (W := fun q j => (q = 39 ∧ j = 3) ∨ (q = 39 ∧ j = 4) ∨ (q = 23 ∧ j = 5) ∨ (q = 23 ∧ j = 6) ∨ (q = 23 ∧ j = 7) ∨ (q = 23 ∧ j = 8) ∨ q = 47) (V := fun q j => (q = 23 ∧ j = 5) ∨ (q = 23 ∧ j = 6) ∨ (q = 23 ∧ j = 7) ∨ (q = 23 ∧ j = 8)) FI14 (fun q j h => (h.elim (fun h => (Or.inr (Or.inr (Or.inl h)))) (fun h => (h.elim (fun h => (Or.inr (Or.inr (Or.inr (Or.inl h))))) (fun h => (h.elim (fun h => (Or.inr (Or.inr (Or.inr (Or.inr (Or.inl h)))))) (fun h => (Or.inr (Or.inr (Or.inr (Or.inr (Or.inr (Or.inl h))))))))))))) g29
            have FJ32 := gc_frc (W := fun q j => (q = 23 ∧ j = 9)) (V := fun q j => (q = 23 ∧ j = 9)) FJ15 (fun q j h => h) k29
            have t33 := (g29 23 1).resolve_left (fun h => h.elim (fun h => absurd h.2 (by decide)) (fun h => h.elim (fun h => absurd h.2 (by decide)) (fun h => h.elim (fun h => absurd h.2 (by decide)) (fun h => absurd h.2 (by decide)))))
            have f34 := (show 0 ≤ I31 23 5 ∧ I31 23 5 ≤ 1000 from gc_in hI31 R_23 rfl rfl)
            have f35 := (show 0 ≤ I31 23 6 ∧ I31 23 6 ≤ 1001 from gc_in hI31 R_23 rfl rfl)
            have f36 := (show 0 ≤ I31 23 7 ∧ I31 23 7 ≤ 125 from gc_in hI31 R_23 rfl rfl)
            have KLT_I31 : gc_LT I31 := q29.2.2.1
            have aT2 : gc_AT β η (gs_X β η q9) 23 I31 J32 := gc_AT_nx aT q29.2.2.2
            have KTK_I31 : gc_TK I31 := And.intro V29_0 (And.intro V29_1 (And.intro V29_2 (And.intro V29_3 V29_4)))
            have t37 := gc_TK_mo KTK_I31
            clear V29_0 V29_1 V29_2 V29_3 V29_4
            refine gv_callV hD rfl (As := []) (st := []) rfl B_23 S_23 rfl (gc_lV6 hws rfl) (Nat.le_of_ble_eq_true rfl) (gz_Ev_mono (d := 2) (by decide) E29) ?_
            show gv_X _ _ (81, [(0, .inr (.inr (some 39))), (2, .inl v2_8), (3, .inl v3_22)], [], sh, gc_h sh I31 J32 A)
            have t38 := (show I31 47 (Int.toNat (v2_8 - 1)) = I14 47 (Int.toNat (v2_8 - 1)) from (g29 47 _).resolve_left (by omega))
            have t39 := (show I31 12 (Int.toNat (I31 46 (Int.toNat (v2_8 - 1)))) = I14 12 (Int.toNat (I14 46 (Int.toNat (v2_8 - 1)))) from by rw [show I31 46 (Int.toNat (v2_8 - 1)) = I14 46 (Int.toNat (v2_8 - 1)) from (g29 46 _).resolve_left (by omega)]; exact (g29 12 _).resolve_left (by omega))
            refine gv_run 1 true hD (pc' := 82) (lv' := [(0, .inr (.inr (some 39))), (2, .inl v2_8), (3, .inl v3_22)]) (st' := [.inl v3_22]) (h' := gc_h sh I31 J32 A) (C := (True ∧ True)) rfl ⟨trivial, trivial⟩ ?_
            refine gv_if_eq (t := 87) hD rfl rfl ⟨by omega, by omega⟩ (fun c40 => ?_) (fun c40 => ?_)
            · show gv_X _ _ (87, [(0, .inr (.inr (some 39))), (2, .inl v2_8), (3, .inl v3_22)], [], sh, gc_h sh I31 J32 A)
              refine gv_run 2 true hD (pc' := 2) (lv' := [(2, .inl (v2_8 + (-1))), (0, .inr (.inr (some 39))), (3, .inl v3_22)]) (st' := []) (h' := gc_h sh I31 J32 A) (C := ((True ∧ True) ∧ True)) rfl ⟨⟨trivial, trivial⟩, trivial⟩ ?_
              refine gv_pick [1, 0] rfl ?_
              exact ih2 I31 J32 ((v2_8 + (-1))) (by omega) hI31 FI31 FJ32 KLT_I31 KTK_I31 (by omega) (fun k hk => (gc_SE_fr e0_16 (fun k _ => (g29 47 k).resolve_left (by omega)) (fun k _ => (g29 46 k).resolve_left (by omega)) (fun k => (g29 12 k).resolve_left (by omega))) k (by omega)) (by have h1 := e1_16; have h2 := gc_ss_at (I := I14) (d := v2_8) (by omega); have h3 := gc_ss_fr (I := I14) (I' := I31) (d := Int.toNat (v2_8 - 1)) (fun k _ => (g29 47 k).resolve_left (by omega)) (fun k _ => (g29 46 k).resolve_left (by omega)) (fun k => (g29 12 k).resolve_left (by omega)); rw [show Int.toNat (v2_8 + (-1)) = Int.toNat (v2_8 - 1) from by omega]; omega) ⟨gs_X β η q9, aT2, fun k v => (kw k v).trans (by rw [if_neg (by omega), if_pos (by omega), show Int.toNat (v2_8 + (-1)) = Int.toNat (v2_8 - 1) from by omega, gt_st_fr (I := I14) (I' := I31) (fun k _ => (g29 46 k).resolve_left (by omega)) (fun k _ => (g29 47 k).resolve_left (by omega))])⟩
            · show gv_X _ _ (85, [(0, .inr (.inr (some 39))), (2, .inl v2_8), (3, .inl v3_22)], [], sh, gc_h sh I31 J32 A)
              refine gv_run 1 true hD (pc' := 86) (lv' := [(0, .inr (.inr (some 39))), (2, .inl v2_8), (3, .inl v3_22)]) (st' := [.inl v2_8]) (h' := gc_h sh I31 J32 A) (C := (True ∧ True)) rfl ⟨trivial, trivial⟩ ?_
              exact gv_iret hD rfl ⟨I31, J32, rfl, hI31, FI31, FJ32, KLT_I31, KTK_I31, ⟨_, rfl, by omega, by omega, by omega, by omega, by omega, (fun k hk => if hkk : k = Int.toNat (v2_8 - 1) then (by rw [hkk]; omega) else ((gc_SE_fr e0_16 (fun k _ => (g29 47 k).resolve_left (by omega)) (fun k _ => (g29 46 k).resolve_left (by omega)) (fun k => (g29 12 k).resolve_left (by omega))) k (by omega))), (fun h => by omega), (fun _ => by have h1 := e1_16; have h3 := gc_ss_fr (I := I14) (I' := I31) (d := Int.toNat v2_8) (fun k _ => (g29 47 k).resolve_left (by omega)) (fun k _ => (g29 46 k).resolve_left (by omega)) (fun k => (g29 12 k).resolve_left (by omega)); omega), ⟨gs_X β η q9, aT2, fun k v => ⟨fun h => absurd h (by omega), fun h => absurd h (by omega), fun _ => (kw k v).trans (by rw [if_pos (by omega), if_pos (by omega), gt_st_fr (I := I14) (I' := I31) (fun k _ => (g29 46 k).resolve_left (by omega)) (fun k _ => (g29 47 k).resolve_left (by omega))])⟩⟩⟩⟩
          · show gv_X _ _ (72, [(0, .inr (.inr (some 39))), (2, .inl v2_8), (3, .inl v3_22)], [], sh, gc_h sh I14 J15 A)
            refine gv_run 1 true hD (pc' := 73) (lv' := [(0, .inr (.inr (some 39))), (2, .inl v2_8), (3, .inl v3_22)]) (st' := [.inl (-1)]) (h' := gc_h sh I14 J15 A) (C := (True ∧ True)) rfl ⟨trivial, trivial⟩ ?_
            exact gv_iret hD rfl ⟨I14, J15, rfl, hI14, FI14, FJ15, KLT_I14, KTK_I14, ⟨_, rfl, by omega, by omega, by omega, by omega, by omega, (fun k hk => by omega), (fun h => by omega), (fun h => by omega), ⟨q9, aT, fun k v => ⟨fun _ => (kw k v).trans (by rcases o_22 with ⟨o1, o2⟩ | ⟨o1, o2⟩; (rw [if_pos (by omega), if_neg (by omega)]); (rw [if_neg (by omega), if_neg (by omega)])), fun h => absurd h (by decide), fun h => absurd h (by decide)⟩⟩⟩⟩
        refine gv_run 2 true hD (pc' := 52) (lv' := [(3, .inl s0_16), (0, .inr (.inr (some 39))), (2, .inl v2_8)]) (st' := [.inr (.inr (some 39))]) (h' := gc_h sh I14 J15 A) (C := ((True ∧ True) ∧ True)) rfl ⟨⟨trivial, trivial⟩, trivial⟩ ?_
        refine gv_get hD rfl rfl S_39 ⟨by decide, B_39⟩ (gc_hA S_39 rfl A_39_1) ?_
        show gv_X _ _ (55, [(3, .inl s0_16), (0, .inr (.inr (some 39))), (2, .inl v2_8)], [.inr (.inr (some 23))], sh, gc_h sh I14 J15 A)
        have f41 := (show 0 ≤ I14 23 7 ∧ I14 23 7 ≤ 125 from gc_in hI14 R_23 rfl rfl)
        refine gv_get hD rfl rfl S_23 ⟨by decide, B_23⟩ (gc_hI S_23 rfl) ?_
        show gv_X _ _ (58, [(3, .inl s0_16), (0, .inr (.inr (some 39))), (2, .inl v2_8)], [.inl (I14 23 7)], sh, gc_h sh I14 J15 A)
        refine gv_run 1 true hD (pc' := 59) (lv' := [(3, .inl s0_16), (0, .inr (.inr (some 39))), (2, .inl v2_8)]) (st' := [.inl s0_16, .inl (I14 23 7)]) (h' := gc_h sh I14 J15 A) (C := (True ∧ True)) rfl ⟨trivial, trivial⟩ ?_
        refine gv_if_eq (t := 67) hD rfl rfl ⟨by omega, by omega⟩ (fun c42 => ?_) (fun c42 => ?_)
        · show gv_X _ _ (67, [(3, .inl s0_16), (0, .inr (.inr (some 39))), (2, .inl v2_8)], [.inl (I14 23 7)], sh, gc_h sh I14 J15 A)
          refine gv_run 1 true hD (pc' := 69) (lv' := [(3, .inl s0_16), (0, .inr (.inr (some 39))), (2, .inl v2_8)]) (st' := [.inl 41, .inl (I14 23 7)]) (h' := gc_h sh I14 J15 A) (C := (True ∧ True)) rfl ⟨trivial, trivial⟩ ?_
          refine gv_pick [1, 2, 0] rfl ?_
          exact L69 s0_16 (I14 23 7) 41 (by omega) (by omega)
        · show gv_X _ _ (62, [(3, .inl s0_16), (0, .inr (.inr (some 39))), (2, .inl v2_8)], [.inl (I14 23 7)], sh, gc_h sh I14 J15 A)
          refine gv_run 2 true hD (pc' := 69) (lv' := [(3, .inl s0_16), (0, .inr (.inr (some 39))), (2, .inl v2_8)]) (st' := [.inl 44, .inl (I14 23 7)]) (h' := gc_h sh I14 J15 A) (C := ((True ∧ True) ∧ True)) rfl ⟨⟨trivial, trivial⟩, trivial⟩ ?_
          refine gv_pick [1, 2, 0] rfl ?_
          exact L69 s0_16 (I14 23 7) 44 (by omega) (by omega)
      refine gv_run 1 true hD (pc' := 3) (lv' := [(0, .inr (.inr (some 39))), (2, .inl v2_8)]) (st' := [.inl v2_8]) (h' := gc_h sh I6 J7 A) (C := (True ∧ True)) rfl ⟨trivial, trivial⟩ ?_
      refine gv_if_le (t := 93) hD rfl rfl ⟨by omega, by omega⟩ (fun c43 => ?_) (fun c43 => ?_)
      · show gv_X _ _ (93, [(0, .inr (.inr (some 39))), (2, .inl v2_8)], [], sh, gc_h sh I6 J7 A)
        refine gv_run 1 true hD (pc' := 94) (lv' := [(0, .inr (.inr (some 39))), (2, .inl v2_8)]) (st' := [.inl 0]) (h' := gc_h sh I6 J7 A) (C := (True ∧ True)) rfl ⟨trivial, trivial⟩ ?_
        exact gv_iret hD rfl ⟨I6, J7, rfl, hI6, FI6, FJ7, KLT_I6, KTK_I6, ⟨_, rfl, by omega, by omega, by omega, by omega, by omega, (fun k hk => by omega), (fun _ => by have h1 := e1_8; rw [show Int.toNat v2_8 = 0 from by omega] at h1; exact h1.symm), (fun h => by omega), (by obtain ⟨q9, aT, kw⟩ := k_8; exact ⟨q9, aT, fun k v => ⟨fun h => absurd h (by decide), fun _ => (kw k v).trans (by rw [show Int.toNat v2_8 = 0 from by omega]; rfl), fun h => absurd h (by decide)⟩⟩)⟩⟩
      · show gv_X _ _ (6, [(0, .inr (.inr (some 39))), (2, .inl v2_8)], [], sh, gc_h sh I6 J7 A)
        have t44 := e0_8 (Int.toNat (v2_8 - 1)) (by omega)
        have t45 := (show 0 ≤ I6 12 (Int.toNat (I6 46 (Int.toNat (v2_8 - 1)))) ∧ I6 12 (Int.toNat (I6 46 (Int.toNat (v2_8 - 1)))) ≤ 4 from gc_in hI6 R_12 rfl rfl)
        refine gv_run 1 true hD (pc' := 7) (lv' := [(0, .inr (.inr (some 39))), (2, .inl v2_8)]) (st' := [.inr (.inr (some 39))]) (h' := gc_h sh I6 J7 A) (C := (True ∧ True)) rfl ⟨trivial, trivial⟩ ?_
        refine gv_get hD rfl rfl S_39 ⟨by decide, B_39⟩ (gc_hA S_39 rfl A_39_18) ?_
        show gv_X _ _ (10, [(0, .inr (.inr (some 39))), (2, .inl v2_8)], [.inr (.inr (some 47))], sh, gc_h sh I6 J7 A)
        refine gv_run 4 true hD (pc' := 14) (lv' := [(0, .inr (.inr (some 39))), (2, .inl v2_8)]) (st' := [.inl (v2_8 - 1), .inr (.inr (some 47)), .inl (v2_8 - 1), .inr (.inr (some 47))]) (h' := gc_h sh I6 J7 A) (C := ((((True ∧ True) ∧ True) ∧ True) ∧ True)) rfl ⟨⟨⟨⟨trivial, trivial⟩, trivial⟩, trivial⟩, trivial⟩ ?_
        have f46 := (show (-2147483648) ≤ I6 47 (Int.toNat (v2_8 - 1)) ∧ I6 47 (Int.toNat (v2_8 - 1)) ≤ 2147483647 from gc_in hI6 R_47 rfl rfl)
        refine gv_iald hD rfl S_47 rfl ⟨by decide, B_47⟩ ⟨by omega, by omega⟩ (gc_iI S_47 rfl) ?_
        show gv_X _ _ (15, [(0, .inr (.inr (some 39))), (2, .inl v2_8)], [.inl (I6 47 (Int.toNat (v2_8 - 1))), .inl (v2_8 - 1), .inr (.inr (some 47))], sh, gc_h sh I6 J7 A)
        refine gv_run 2 true hD (pc' := 17) (lv' := [(0, .inr (.inr (some 39))), (2, .inl v2_8)]) (st' := [.inl ((I6 47 (Int.toNat (v2_8 - 1))) + 1), .inl (v2_8 - 1), .inr (.inr (some 47))]) (h' := gc_h sh I6 J7 A) (C := ((True ∧ True) ∧ True)) rfl ⟨⟨trivial, trivial⟩, trivial⟩ ?_
        refine gv_iast hD rfl S_47 ⟨by decide, B_47⟩ ⟨by omega, by omega⟩ ?_
        refine gc_st hI6 S_47 rfl R_47 (lo := (-2147483648)) (hi := 2147483647) rfl rfl (by omega) (by omega) (fun I47 hI47 q48 p48 => ?_)
        have FI47 := gc_frs (W := fun q j => (q = 39 ∧ j = 3) ∨ (q = 39 ∧ j = 4) ∨ (q = 23 ∧ j = 5) ∨ (q = 23 ∧ j = 6) ∨ (q = 23 ∧ j = 7) ∨ (q = 23 ∧ j = 8) ∨ q = 47) FI6 (Or.inr (Or.inr (Or.inr (Or.inr (Or.inr (Or.inr rfl)))))) p48
        have t49 := p48 23 1 (fun h => absurd h.1 (by decide))
        have t50 := p48 23 5 (fun h => absurd h.1 (by decide))
        have t51 := p48 23 6 (fun h => absurd h.1 (by decide))
        have t52 := p48 23 7 (fun h => absurd h.1 (by decide))
        have KLT_I47 := gc_LT_fr KLT_I6 (p48 23 5 (fun h => absurd h.1 (by decide))) (p48 23 6 (fun h => absurd h.1 (by decide))) (p48 23 7 (fun h => absurd h.1 (by decide))) (fun k => p48 24 k (fun h => absurd h.1 (by decide)))
        have KTK_I47 := gc_TK_fr KTK_I6 (p48 23 1 (fun h => absurd h.1 (by decide))) (p48 23 5 (fun h => absurd h.1 (by decide))) (p48 23 6 (fun h => absurd h.1 (by decide))) (p48 23 7 (fun h => absurd h.1 (by decide)))
        show gv_X _ _ (18, [(0, .inr (.inr (some 39))), (2, .inl v2_8)], [], sh, gc_h sh I47 J7 A)
        refine gv_run 1 true hD (pc' := 19) (lv' := [(0, .inr (.inr (some 39))), (2, .inl v2_8)]) (st' := [.inr (.inr (some 39))]) (h' := gc_h sh I47 J7 A) (C := (True ∧ True)) rfl ⟨trivial, trivial⟩ ?_
        refine gv_get hD rfl rfl S_39 ⟨by decide, B_39⟩ (gc_hA S_39 rfl A_39_18) ?_
        show gv_X _ _ (22, [(0, .inr (.inr (some 39))), (2, .inl v2_8)], [.inr (.inr (some 47))], sh, gc_h sh I47 J7 A)
        refine gv_run 3 true hD (pc' := 25) (lv' := [(0, .inr (.inr (some 39))), (2, .inl v2_8)]) (st' := [.inl (v2_8 - 1), .inr (.inr (some 47))]) (h' := gc_h sh I47 J7 A) (C := (((True ∧ True) ∧ True) ∧ True)) rfl ⟨⟨⟨trivial, trivial⟩, trivial⟩, trivial⟩ ?_
        have f53 := (show (-2147483648) ≤ I47 47 (Int.toNat (v2_8 - 1)) ∧ I47 47 (Int.toNat (v2_8 - 1)) ≤ 2147483647 from gc_in hI47 R_47 rfl rfl)
        refine gv_iald hD rfl S_47 rfl ⟨by decide, B_47⟩ ⟨by omega, by omega⟩ (gc_iI S_47 rfl) ?_
        show gv_X _ _ (26, [(0, .inr (.inr (some 39))), (2, .inl v2_8)], [.inl (I47 47 (Int.toNat (v2_8 - 1)))], sh, gc_h sh I47 J7 A)
        refine gv_run 1 true hD (pc' := 27) (lv' := [(0, .inr (.inr (some 39))), (2, .inl v2_8)]) (st' := [.inr (.inr (some 39)), .inl (I47 47 (Int.toNat (v2_8 - 1)))]) (h' := gc_h sh I47 J7 A) (C := (True ∧ True)) rfl ⟨trivial, trivial⟩ ?_
        refine gv_get hD rfl rfl S_39 ⟨by decide, B_39⟩ (gc_hA S_39 rfl A_39_0) ?_
        show gv_X _ _ (30, [(0, .inr (.inr (some 39))), (2, .inl v2_8)], [.inr (.inr (some 1)), .inl (I47 47 (Int.toNat (v2_8 - 1)))], sh, gc_h sh I47 J7 A)
        refine gv_get hD rfl rfl S_1 ⟨by decide, B_1⟩ (gc_hA S_1 rfl A_1_7) ?_
        show gv_X _ _ (33, [(0, .inr (.inr (some 39))), (2, .inl v2_8)], [.inr (.inr (some 12)), .inl (I47 47 (Int.toNat (v2_8 - 1)))], sh, gc_h sh I47 J7 A)
        refine gv_run 1 true hD (pc' := 34) (lv' := [(0, .inr (.inr (some 39))), (2, .inl v2_8)]) (st' := [.inr (.inr (some 39)), .inr (.inr (some 12)), .inl (I47 47 (Int.toNat (v2_8 - 1)))]) (h' := gc_h sh I47 J7 A) (C := (True ∧ True)) rfl ⟨trivial, trivial⟩ ?_
        refine gv_get hD rfl rfl S_39 ⟨by decide, B_39⟩ (gc_hA S_39 rfl A_39_17) ?_
        show gv_X _ _ (37, [(0, .inr (.inr (some 39))), (2, .inl v2_8)], [.inr (.inr (some 46)), .inr (.inr (some 12)), .inl (I47 47 (Int.toNat (v2_8 - 1)))], sh, gc_h sh I47 J7 A)
        refine gv_run 3 true hD (pc' := 40) (lv' := [(0, .inr (.inr (some 39))), (2, .inl v2_8)]) (st' := [.inl (v2_8 - 1), .inr (.inr (some 46)), .inr (.inr (some 12)), .inl (I47 47 (Int.toNat (v2_8 - 1)))]) (h' := gc_h sh I47 J7 A) (C := (((True ∧ True) ∧ True) ∧ True)) rfl ⟨⟨⟨trivial, trivial⟩, trivial⟩, trivial⟩ ?_
        have f54 := (show 0 ≤ I47 46 (Int.toNat (v2_8 - 1)) ∧ I47 46 (Int.toNat (v2_8 - 1)) ≤ 95 from gc_in hI47 R_46 rfl rfl)
        refine gv_iald hD rfl S_46 rfl ⟨by decide, B_46⟩ ⟨by omega, by omega⟩ (gc_iI S_46 rfl) ?_
        show gv_X _ _ (41, [(0, .inr (.inr (some 39))), (2, .inl v2_8)], [.inl (I47 46 (Int.toNat (v2_8 - 1))), .inr (.inr (some 12)), .inl (I47 47 (Int.toNat (v2_8 - 1)))], sh, gc_h sh I47 J7 A)
        have f55 := (show 0 ≤ I47 12 (Int.toNat ((I47 46 (Int.toNat (v2_8 - 1))))) ∧ I47 12 (Int.toNat ((I47 46 (Int.toNat (v2_8 - 1))))) ≤ 4 from gc_in hI47 R_12 rfl rfl)
        refine gv_iald hD rfl S_12 rfl ⟨by decide, B_12⟩ ⟨by omega, by omega⟩ (gc_iI S_12 rfl) ?_
        show gv_X _ _ (42, [(0, .inr (.inr (some 39))), (2, .inl v2_8)], [.inl (I47 12 (Int.toNat ((I47 46 (Int.toNat (v2_8 - 1)))))), .inl (I47 47 (Int.toNat (v2_8 - 1)))], sh, gc_h sh I47 J7 A)
        have t56 := e0_8 (Int.toNat (v2_8 - 1)) (by omega)
        have t57 := (show I47 12 (Int.toNat (I47 46 (Int.toNat (v2_8 - 1)))) = I6 12 (Int.toNat (I6 46 (Int.toNat (v2_8 - 1)))) from by rw [p48 46 _ (fun h => absurd h.1 (by omega)), p48 12 _ (fun h => absurd h.1 (by omega))])
        refine gv_icmp_ge (t := 49) hD rfl rfl ⟨⟨by omega, by omega⟩, ⟨by omega, by omega⟩⟩ (fun c58 => ?_) (fun c58 => ?_)
        · show gv_X _ _ (49, [(0, .inr (.inr (some 39))), (2, .inl v2_8)], [], sh, gc_h sh I47 J7 A)
          refine gv_run 1 true hD (pc' := 50) (lv' := [(0, .inr (.inr (some 39))), (2, .inl v2_8)]) (st' := [.inl 0]) (h' := gc_h sh I47 J7 A) (C := (True ∧ True)) rfl ⟨trivial, trivial⟩ ?_
          exact L50 I47 J7 0 hI47 FI47 FJ7 KLT_I47 KTK_I47 (by omega) (gc_SE_fr (n := v2_8 - 1) (fun k hk => e0_8 k (by omega)) (fun k hk => p48 47 k (fun h => by have := h.2; omega)) (fun k _ => p48 46 k (fun h => absurd h.1 (by omega))) (fun k => p48 12 k (fun h => absurd h.1 (by omega)))) (by have h1 := gc_ss_at (I := I6) (d := v2_8) (by omega); have h2 := gc_ss_at (I := I47) (d := v2_8) (by omega); have h3 := gc_ss_fr (I := I6) (I' := I47) (d := Int.toNat (v2_8 - 1)) (fun k hk => p48 47 k (fun h => by have := h.2; omega)) (fun k _ => p48 46 k (fun h => absurd h.1 (by omega))) (fun k => p48 12 k (fun h => absurd h.1 (by omega))); have h4 := (show I47 12 (Int.toNat (I47 46 (Int.toNat (v2_8 - 1)))) = I6 12 (Int.toNat (I6 46 (Int.toNat (v2_8 - 1)))) from by rw [p48 46 _ (fun h => absurd h.1 (by omega)), p48 12 _ (fun h => absurd h.1 (by omega))]); have h5 := e1_8; omega) (by obtain ⟨q9, aT, kw⟩ := k_8; exact ⟨q9, gc_AT_I aT (p48 23 1 (fun h => absurd h.1 (by decide))) (p48 23 5 (fun h => absurd h.1 (by decide))) (p48 23 6 (fun h => absurd h.1 (by decide))) (p48 23 7 (fun h => absurd h.1 (by decide))) (p48 23 8 (fun h => absurd h.1 (by decide))) (fun k => p48 24 k (fun h => absurd h.1 (by decide))), fun k v => (kw k v).trans (gt_C_st (by omega) (fun k => p48 46 k (fun h => absurd h.1 (by decide))) (fun k hk => p48 47 k (fun h => by have := h.2; omega)) q48)⟩)
        · show gv_X _ _ (45, [(0, .inr (.inr (some 39))), (2, .inl v2_8)], [], sh, gc_h sh I47 J7 A)
          refine gv_run 2 true hD (pc' := 50) (lv' := [(0, .inr (.inr (some 39))), (2, .inl v2_8)]) (st' := [.inl 1]) (h' := gc_h sh I47 J7 A) (C := ((True ∧ True) ∧ True)) rfl ⟨⟨trivial, trivial⟩, trivial⟩ ?_
          exact L50 I47 J7 1 hI47 FI47 FJ7 KLT_I47 KTK_I47 (by omega) (gc_SE_fr (n := v2_8 - 1) (fun k hk => e0_8 k (by omega)) (fun k hk => p48 47 k (fun h => by have := h.2; omega)) (fun k _ => p48 46 k (fun h => absurd h.1 (by omega))) (fun k => p48 12 k (fun h => absurd h.1 (by omega)))) (by have h1 := gc_ss_at (I := I6) (d := v2_8) (by omega); have h2 := gc_ss_at (I := I47) (d := v2_8) (by omega); have h3 := gc_ss_fr (I := I6) (I' := I47) (d := Int.toNat (v2_8 - 1)) (fun k hk => p48 47 k (fun h => by have := h.2; omega)) (fun k _ => p48 46 k (fun h => absurd h.1 (by omega))) (fun k => p48 12 k (fun h => absurd h.1 (by omega))); have h4 := (show I47 12 (Int.toNat (I47 46 (Int.toNat (v2_8 - 1)))) = I6 12 (Int.toNat (I6 46 (Int.toNat (v2_8 - 1)))) from by rw [p48 46 _ (fun h => absurd h.1 (by omega)), p48 12 _ (fun h => absurd h.1 (by omega))]); have h5 := e1_8; omega) (by obtain ⟨q9, aT, kw⟩ := k_8; exact ⟨q9, gc_AT_I aT (p48 23 1 (fun h => absurd h.1 (by decide))) (p48 23 5 (fun h => absurd h.1 (by decide))) (p48 23 6 (fun h => absurd h.1 (by decide))) (p48 23 7 (fun h => absurd h.1 (by decide))) (p48 23 8 (fun h => absurd h.1 (by decide))) (fun k => p48 24 k (fun h => absurd h.1 (by decide))), fun k v => (kw k v).trans (gt_C_st (by omega) (fun k => p48 46 k (fun h => absurd h.1 (by decide))) (fun k hk => p48 47 k (fun h => by have := h.2; omega)) q48)⟩)
  refine gv_run 2 true hD (pc' := 2) (lv' := [(2, .inl a1), (0, .inr (.inr (some 39))), (1, .inl a1)]) (st' := []) (h' := gc_h sh I J A) (C := ((True ∧ True) ∧ True)) rfl ⟨⟨trivial, trivial⟩, trivial⟩ ?_
  refine gv_pick [1, 0] rfl ?_
  exact L2 _ I J a1 (Nat.lt_succ_self _) hI FI FJ KLT_I KTK_I (by omega) x0 rfl ⟨p9, y0, fun _ _ => rfl⟩
set_option maxHeartbeats 4000000 in
set_option maxRecDepth 100000 in
theorem d_X6_readTree_p {ws0 : List Cond} {tb : String → gz_T} (hws : gc_Ws ws0) (htb : gc_tbs tb) (sh : gz_Sh) (ro : Nat → Nat) (I : gr_I) (J : gr_J) (A : gc_A) (hI : gc_Inv ro I) (m : Nat) (a1 : Nat) (β : Int → Int) (η : Int) (hb : gc_Base sh ro A) (S_a1 : sh[a1]? = some (true, 1, m)) (R_a1 : ro a1 = 37) (B_a1 : a1 < 1000000) (M_a1 : m < 2147483648)  (x0 : 115 ≤ a1) (x1 : 60 ≤ m) (y0 : gs_TX β η (I 24)) (y1 : η = I 23 1) : ∃ r h', gz_Ev ws0 tb 4 (yX6_readTree, cX6_readTree, 5, (some .int)) [.inr (.inr (some 39)), .inr (.inr (some a1))] sh (gc_h sh I J A) r sh h' 0 0 ∧ (∃ (I' : gr_I) (J' : gr_J), h' = gc_h sh I' J' A ∧ gc_Inv ro I' ∧ (∀ q j : Nat, ((q = 39 ∧ j = 3) ∨ (q = 39 ∧ j = 4) ∨ (q = 23 ∧ j = 5) ∨ (q = 23 ∧ j = 6) ∨ (q = 23 ∧ j = 7) ∨ (q = 23 ∧ j = 8) ∨ q = a1 ∨ q = 46 ∨ q = 47) ∨ I' q j = I q j) ∧ (∀ q j : Nat, ((q = 23 ∧ j = 9)) ∨ J' q j = J q j) ∧ (∃ z : Int, r = some (.inl z) ∧ (-1001) ≤ z ∧ z ≤ 60 ∧ (I' 23 1 = I 23 1) ∧ (z ≤ 0 ∨ gc_wtr I' a1 z) ∧ (z ≤ 60) ∧ (z ≤ 0 ∨ gc_rg a1 I' z 0 (I 4 1 - 1)) ∧ (z = gt_M β η (gt_cf β η I J) (gt_ca I) (gt_ck I) (gt_cg I) 60 0 []))) := by
  have FI : ∀ q j : Nat, ((q = 39 ∧ j = 3) ∨ (q = 39 ∧ j = 4) ∨ (q = 23 ∧ j = 5) ∨ (q = 23 ∧ j = 6) ∨ (q = 23 ∧ j = 7) ∨ (q = 23 ∧ j = 8) ∨ q = a1 ∨ q = 46 ∨ q = 47) ∨ I q j = I q j := fun _ _ => Or.inr rfl
  have FJ : ∀ q j : Nat, ((q = 23 ∧ j = 9)) ∨ J q j = J q j := fun _ _ => Or.inr rfl
  have A_1_1 : A 1 1 = some 4 := gc_bA hb rfl
  have A_1_6 : A 1 6 = some 11 := gc_bA hb rfl
  have A_1_7 : A 1 7 = some 12 := gc_bA hb rfl
  have A_39_0 : A 39 0 = some 1 := gc_bA hb rfl
  have A_39_1 : A 39 1 = some 23 := gc_bA hb rfl
  have A_39_17 : A 39 17 = some 46 := gc_bA hb rfl
  have A_39_18 : A 39 18 = some 47 := gc_bA hb rfl
  have B_1 : 1 < 1000000 := by decide
  have B_11 : 11 < 1000000 := by decide
  have B_12 : 12 < 1000000 := by decide
  have B_23 : 23 < 1000000 := by decide
  have B_39 : 39 < 1000000 := by decide
  have B_4 : 4 < 1000000 := by decide
  have B_46 : 46 < 1000000 := by decide
  have B_47 : 47 < 1000000 := by decide
  have R_11 : ro 11 = 25 := gc_bR hb (by decide) rfl
  have R_12 : ro 12 = 26 := gc_bR hb (by decide) rfl
  have R_23 : ro 23 = 3 := gc_bR hb (by decide) rfl
  have R_4 : ro 4 = 11 := gc_bR hb (by decide) rfl
  have R_46 : ro 46 = 37 := gc_bR hb (by decide) rfl
  have R_47 : ro 47 = 0 := gc_bR hb (by decide) rfl
  have S_1 : sh[1]? = some (false, 8, 21) := gc_bS hb rfl
  have S_11 : sh[11]? = some (true, 1, 96) := gc_bS hb rfl
  have S_12 : sh[12]? = some (true, 1, 96) := gc_bS hb rfl
  have S_23 : sh[23]? = some (false, 9, 10) := gc_bS hb rfl
  have S_39 : sh[39]? = some (false, 6, 19) := gc_bS hb rfl
  have S_4 : sh[4]? = some (false, 4, 2) := gc_bS hb rfl
  have S_46 : sh[46]? = some (true, 1, 60) := gc_bS hb rfl
  have S_47 : sh[47]? = some (true, 1, 60) := gc_bS hb rfl
  have hD : gv_D (gc_E6 ws0 tb 3 (yX6_readTree, cX6_readTree, 5, (some .int)) kX6_readTree) := gq_ok oX6_readTree
  refine gc_ev6 (d := 3) (l := kX6_readTree) (Po := fun r h' => (∃ (I' : gr_I) (J' : gr_J), h' = gc_h sh I' J' A ∧ gc_Inv ro I' ∧ (∀ q j : Nat, ((q = 39 ∧ j = 3) ∨ (q = 39 ∧ j = 4) ∨ (q = 23 ∧ j = 5) ∨ (q = 23 ∧ j = 6) ∨ (q = 23 ∧ j = 7) ∨ (q = 23 ∧ j = 8) ∨ q = a1 ∨ q = 46 ∨ q = 47) ∨ I' q j = I q j) ∧ (∀ q j : Nat, ((q = 23 ∧ j = 9)) ∨ J' q j = J q j) ∧ (∃ z : Int, r = some (.inl z) ∧ (-1001) ≤ z ∧ z ≤ 60 ∧ (I' 23 1 = I 23 1) ∧ (z ≤ 0 ∨ gc_wtr I' a1 z) ∧ (z ≤ 60) ∧ (z ≤ 0 ∨ gc_rg a1 I' z 0 (I 4 1 - 1)) ∧ (z = gt_M β η (gt_cf β η I J) (gt_ca I) (gt_ck I) (gt_cg I) 60 0 [])))) htb rfl (Nat.le_of_ble_eq_true rfl) ?_
  have N_23__a1 : ¬ (23 = a1) := by omega
  have N_4__a1 : ¬ (4 = a1) := by omega
  have N_24__a1 : ¬ (24 = a1) := by omega
  have f1 := (show 0 ≤ I 23 1 ∧ I 23 1 ≤ 1000 from gc_in hI R_23 rfl rfl)
  have f2 := (show 0 ≤ I 23 5 ∧ I 23 5 ≤ 1000 from gc_in hI R_23 rfl rfl)
  have f3 := (show 0 ≤ I 23 6 ∧ I 23 6 ≤ 1001 from gc_in hI R_23 rfl rfl)
  have f4 := (show 0 ≤ I 23 7 ∧ I 23 7 ≤ 125 from gc_in hI R_23 rfl rfl)
  have f5 := (show 0 ≤ I 4 1 ∧ I 4 1 ≤ 96 from gc_in hI R_4 rfl rfl)
  have L11 : ∀ (n9 : Nat) (I6 : gr_I) (J7 : gr_J) (v2_8 : Int) (v3_8 : Int), (61 - v2_8).toNat < n9 → gc_Inv ro I6 → (∀ q j : Nat, ((q = 39 ∧ j = 3) ∨ (q = 39 ∧ j = 4) ∨ (q = 23 ∧ j = 5) ∨ (q = 23 ∧ j = 6) ∨ (q = 23 ∧ j = 7) ∨ (q = 23 ∧ j = 8) ∨ q = a1 ∨ q = 46 ∨ q = 47) ∨ I6 q j = I q j) → (∀ q j : Nat, ((q = 23 ∧ j = 9)) ∨ J7 q j = J q j) → gc_LT I6 → gc_TK I6 → ((0 ≤ v2_8 ∧ v2_8 ≤ 60) ∧ (0 ≤ v3_8 ∧ v3_8 ≤ 60) ∧ (v3_8 ≤ v2_8) ∧ (I6 23 1 = I 23 1) ∧ (I6 4 1 = I 4 1)) → (gc_SE I6 v3_8) → (gc_op I6 a1 (Int.toNat v2_8) = 1 + gc_ss I6 (Int.toNat v3_8)) → (gc_pp I6 a1 v2_8) → (gc_rg a1 I6 v2_8 0 (I 4 1 - 1)) → (∃ p9, gc_AT β η p9 23 I6 J7 ∧ gt_M β η (gt_cf β η I J) (gt_ca I) (gt_ck I) (gt_cg I) 60 0 [] = gt_M β η (gt_cf β η I J) (gt_ca I) (gt_ck I) (gt_cg I) (Int.toNat (60 - v2_8)) p9 (gt_st I6 (Int.toNat v3_8))) → gv_X (gc_E6 ws0 tb 3 (yX6_readTree, cX6_readTree, 5, (some .int)) kX6_readTree) (gv_Q cX6_readTree (some .int) sh (fun r h' => (∃ (I' : gr_I) (J' : gr_J), h' = gc_h sh I' J' A ∧ gc_Inv ro I' ∧ (∀ q j : Nat, ((q = 39 ∧ j = 3) ∨ (q = 39 ∧ j = 4) ∨ (q = 23 ∧ j = 5) ∨ (q = 23 ∧ j = 6) ∨ (q = 23 ∧ j = 7) ∨ (q = 23 ∧ j = 8) ∨ q = a1 ∨ q = 46 ∨ q = 47) ∨ I' q j = I q j) ∧ (∀ q j : Nat, ((q = 23 ∧ j = 9)) ∨ J' q j = J q j) ∧ (∃ z : Int, r = some (.inl z) ∧ (-1001) ≤ z ∧ z ≤ 60 ∧ (I' 23 1 = I 23 1) ∧ (z ≤ 0 ∨ gc_wtr I' a1 z) ∧ (z ≤ 60) ∧ (z ≤ 0 ∨ gc_rg a1 I' z 0 (I 4 1 - 1)) ∧ (z = gt_M β η (gt_cf β η I J) (gt_ca I) (gt_ck I) (gt_cg I) 60 0 []))))) (11, [(0, .inr (.inr (some 39))), (1, .inr (.inr (some a1))), (2, .inl v2_8), (3, .inl v3_8)], [], sh, gc_h sh I6 J7 A) := by
    intro n9
    induction n9 with
    | zero => intro I6 J7 v2_8 v3_8 hn; omega
    | succ n9 ih11 =>
      intro I6 J7 v2_8 v3_8 hn hI6 FI6 FJ7 KLT_I6 KTK_I6 m_8 e0_8 e1_8 e2_8 e4_8 w_8
      obtain ⟨hv2_8, hv3_8, e3_8, e5_8, e6_8⟩ := m_8
      have t9 := gc_TK_mo KTK_I6
      have f10 := (show 0 ≤ I6 23 1 ∧ I6 23 1 ≤ 1000 from gc_in hI6 R_23 rfl rfl)
      have f11 := (show 0 ≤ I6 23 5 ∧ I6 23 5 ≤ 1000 from gc_in hI6 R_23 rfl rfl)
      have f12 := (show 0 ≤ I6 23 6 ∧ I6 23 6 ≤ 1001 from gc_in hI6 R_23 rfl rfl)
      have f13 := (show 0 ≤ I6 23 7 ∧ I6 23 7 ≤ 125 from gc_in hI6 R_23 rfl rfl)
      have f14 := (show 0 ≤ I6 4 1 ∧ I6 4 1 ≤ 96 from gc_in hI6 R_4 rfl rfl)
      obtain ⟨p9, aT, aS⟩ := w_8
      have aK : I6 23 7 = gs_T β η p9 := aT.2.1
      have aA : I6 23 5 = gs_A β η p9 := aT.2.2.1
      have yq : ∀ q k : Nat, q = 4 ∨ q = 11 ∨ q = 12 ∨ q = 13 → I6 q k = I q k := fun q k h => (FI6 q k).resolve_left (by omega)
      have yj : ∀ k : Nat, J7 5 k = J 5 k := fun k => (FJ7 5 k).resolve_left (by omega)
      have L76 : ((I6 23 1 = I 23 1) ∧ (I6 4 1 = I 4 1)) → gt_M β η (gt_cf β η I J) (gt_ca I) (gt_ck I) (gt_cg I) 60 0 [] = -1 - gs_A β η p9 → gv_X (gc_E6 ws0 tb 3 (yX6_readTree, cX6_readTree, 5, (some .int)) kX6_readTree) (gv_Q cX6_readTree (some .int) sh (fun r h' => (∃ (I' : gr_I) (J' : gr_J), h' = gc_h sh I' J' A ∧ gc_Inv ro I' ∧ (∀ q j : Nat, ((q = 39 ∧ j = 3) ∨ (q = 39 ∧ j = 4) ∨ (q = 23 ∧ j = 5) ∨ (q = 23 ∧ j = 6) ∨ (q = 23 ∧ j = 7) ∨ (q = 23 ∧ j = 8) ∨ q = a1 ∨ q = 46 ∨ q = 47) ∨ I' q j = I q j) ∧ (∀ q j : Nat, ((q = 23 ∧ j = 9)) ∨ J' q j = J q j) ∧ (∃ z : Int, r = some (.inl z) ∧ (-1001) ≤ z ∧ z ≤ 60 ∧ (I' 23 1 = I 23 1) ∧ (z ≤ 0 ∨ gc_wtr I' a1 z) ∧ (z ≤ 60) ∧ (z ≤ 0 ∨ gc_rg a1 I' z 0 (I 4 1 - 1)) ∧ (z = gt_M β η (gt_cf β η I J) (gt_ca I) (gt_ck I) (gt_cg I) 60 0 []))))) (76, [(0, .inr (.inr (some 39)))], [], sh, gc_h sh I6 J7 A) := by
        intro m_15 n_9
        obtain ⟨e0_15, e1_15⟩ := m_15
        have t16 := gc_TK_mo KTK_I6
        have f17 := (show 0 ≤ I6 23 1 ∧ I6 23 1 ≤ 1000 from gc_in hI6 R_23 rfl rfl)
        have f18 := (show 0 ≤ I6 23 5 ∧ I6 23 5 ≤ 1000 from gc_in hI6 R_23 rfl rfl)
        have f19 := (show 0 ≤ I6 23 6 ∧ I6 23 6 ≤ 1001 from gc_in hI6 R_23 rfl rfl)
        have f20 := (show 0 ≤ I6 23 7 ∧ I6 23 7 ≤ 125 from gc_in hI6 R_23 rfl rfl)
        have f21 := (show 0 ≤ I6 4 1 ∧ I6 4 1 ≤ 96 from gc_in hI6 R_4 rfl rfl)
        refine gv_run 2 true hD (pc' := 78) (lv' := [(0, .inr (.inr (some 39)))]) (st' := [.inr (.inr (some 39)), .inl (-1)]) (h' := gc_h sh I6 J7 A) (C := ((True ∧ True) ∧ True)) rfl ⟨⟨trivial, trivial⟩, trivial⟩ ?_
        refine gv_get hD rfl rfl S_39 ⟨by decide, B_39⟩ (gc_hA S_39 rfl A_39_1) ?_
        show gv_X _ _ (81, [(0, .inr (.inr (some 39)))], [.inr (.inr (some 23)), .inl (-1)], sh, gc_h sh I6 J7 A)
        have f22 := (show 0 ≤ I6 23 5 ∧ I6 23 5 ≤ 1000 from gc_in hI6 R_23 rfl rfl)
        refine gv_get hD rfl rfl S_23 ⟨by decide, B_23⟩ (gc_hI S_23 rfl) ?_
        show gv_X _ _ (84, [(0, .inr (.inr (some 39)))], [.inl (I6 23 5), .inl (-1)], sh, gc_h sh I6 J7 A)
        refine gv_run 1 true hD (pc' := 85) (lv' := [(0, .inr (.inr (some 39)))]) (st' := [.inl ((-1) - (I6 23 5))]) (h' := gc_h sh I6 J7 A) (C := (True ∧ True)) rfl ⟨trivial, trivial⟩ ?_
        exact gv_iret hD rfl ⟨I6, J7, rfl, hI6, FI6, FJ7, ⟨_, rfl, by omega, by omega, by omega, (Or.inl (by omega)), by omega, (Or.inl (by omega)), by rw [n_9, aA]⟩⟩
      have L86 : ∀ (v4_23 : Int), ((0 ≤ v2_8 ∧ v2_8 ≤ 59) ∧ (0 ≤ v3_8 ∧ v3_8 ≤ 60) ∧ (0 ≤ v4_23 ∧ v4_23 ≤ 95) ∧ (v2_8 ≤ 59) ∧ (I6 23 7 = 1) ∧ (v4_23 < I6 4 1) ∧ (I6 23 1 = I 23 1) ∧ (I6 4 1 = I 4 1)) → ((v4_23 = gt_cf β η I J p9 ∧ gs_T β η p9 = 1) ∧ gt_kz (gt_ck I) (gt_cg I) v4_23 (gt_st I6 (Int.toNat v3_8)) = 0) → gv_X (gc_E6 ws0 tb 3 (yX6_readTree, cX6_readTree, 5, (some .int)) kX6_readTree) (gv_Q cX6_readTree (some .int) sh (fun r h' => (∃ (I' : gr_I) (J' : gr_J), h' = gc_h sh I' J' A ∧ gc_Inv ro I' ∧ (∀ q j : Nat, ((q = 39 ∧ j = 3) ∨ (q = 39 ∧ j = 4) ∨ (q = 23 ∧ j = 5) ∨ (q = 23 ∧ j = 6) ∨ (q = 23 ∧ j = 7) ∨ (q = 23 ∧ j = 8) ∨ q = a1 ∨ q = 46 ∨ q = 47) ∨ I' q j = I q j) ∧ (∀ q j : Nat, ((q = 23 ∧ j = 9)) ∨ J' q j = J q j) ∧ (∃ z : Int, r = some (.inl z) ∧ (-1001) ≤ z ∧ z ≤ 60 ∧ (I' 23 1 = I 23 1) ∧ (z ≤ 0 ∨ gc_wtr I' a1 z) ∧ (z ≤ 60) ∧ (z ≤ 0 ∨ gc_rg a1 I' z 0 (I 4 1 - 1)) ∧ (z = gt_M β η (gt_cf β η I J) (gt_ca I) (gt_ck I) (gt_cg I) 60 0 []))))) (86, [(0, .inr (.inr (some 39))), (1, .inr (.inr (some a1))), (2, .inl v2_8), (3, .inl v3_8), (4, .inl v4_23)], [], sh, gc_h sh I6 J7 A) := by
        intro v4_23 m_23 c_23
        obtain ⟨hv2_8_23, hv3_8_23, hv4_23, e0_23, e1_23, e2_23, e3_23, e4_23⟩ := m_23
        have t24 := gc_TK_mo KTK_I6
        have f25 := (show 0 ≤ I6 23 1 ∧ I6 23 1 ≤ 1000 from gc_in hI6 R_23 rfl rfl)
        have f26 := (show 0 ≤ I6 23 5 ∧ I6 23 5 ≤ 1000 from gc_in hI6 R_23 rfl rfl)
        have f27 := (show 0 ≤ I6 23 6 ∧ I6 23 6 ≤ 1001 from gc_in hI6 R_23 rfl rfl)
        have f28 := (show 0 ≤ I6 23 7 ∧ I6 23 7 ≤ 125 from gc_in hI6 R_23 rfl rfl)
        have f29 := (show 0 ≤ I6 4 1 ∧ I6 4 1 ≤ 96 from gc_in hI6 R_4 rfl rfl)
        have aW : gt_M β η (gt_cf β η I J) (gt_ca I) (gt_ck I) (gt_cg I) 60 0 [] = gt_W β η (gt_cf β η I J) (gt_ca I) (gt_ck I) (gt_cg I) v4_23 0 (v2_8 + 1) (gs_X β η p9) (gt_st I6 (Int.toNat v3_8)) := aS.trans (gt_M_y c_23.1.2 (by have h9 := c_23.1.1; omega) (by rw [← c_23.1.1]; exact c_23.2) ⟨by omega, by omega⟩ c_23.1.1.symm)
        have L202 : ∀ (I30 : gr_I) (J31 : gr_J) (s0_32 : Int), gc_Inv ro I30 → (∀ q j : Nat, ((q = 39 ∧ j = 3) ∨ (q = 39 ∧ j = 4) ∨ (q = 23 ∧ j = 5) ∨ (q = 23 ∧ j = 6) ∨ (q = 23 ∧ j = 7) ∨ (q = 23 ∧ j = 8) ∨ q = a1 ∨ q = 46 ∨ q = 47) ∨ I30 q j = I q j) → (∀ q j : Nat, ((q = 23 ∧ j = 9)) ∨ J31 q j = J q j) → gc_LT I30 → gc_TK I30 → (((-1001) ≤ s0_32 ∧ s0_32 ≤ 60) ∧ (s0_32 ≤ 60) ∧ (I30 23 1 = I 23 1) ∧ (I30 4 1 = I 4 1)) → (s0_32 ≤ 0 ∨ gc_wtr I30 a1 s0_32) → (s0_32 ≤ 0 ∨ gc_rg a1 I30 s0_32 0 (I 4 1 - 1)) → s0_32 = gt_M β η (gt_cf β η I J) (gt_ca I) (gt_ck I) (gt_cg I) 60 0 [] → gv_X (gc_E6 ws0 tb 3 (yX6_readTree, cX6_readTree, 5, (some .int)) kX6_readTree) (gv_Q cX6_readTree (some .int) sh (fun r h' => (∃ (I' : gr_I) (J' : gr_J), h' = gc_h sh I' J' A ∧ gc_Inv ro I' ∧ (∀ q j : Nat, ((q = 39 ∧ j = 3) ∨ (q = 39 ∧ j = 4) ∨ (q = 23 ∧ j = 5) ∨ (q = 23 ∧ j = 6) ∨ (q = 23 ∧ j = 7) ∨ (q = 23 ∧ j = 8) ∨ q = a1 ∨ q = 46 ∨ q = 47) ∨ I' q j = I q j) ∧ (∀ q j : Nat, ((q = 23 ∧ j = 9)) ∨ J' q j = J q j) ∧ (∃ z : Int, r = some (.inl z) ∧ (-1001) ≤ z ∧ z ≤ 60 ∧ (I' 23 1 = I 23 1) ∧ (z ≤ 0 ∨ gc_wtr I' a1 z) ∧ (z ≤ 60) ∧ (z ≤ 0 ∨ gc_rg a1 I' z 0 (I 4 1 - 1)) ∧ (z = gt_M β η (gt_cf β η I J) (gt_ca I) (gt_ck I) (gt_cg I) 60 0 []))))) (202, [], [.inl s0_32], sh, gc_h sh I30 J31 A) := by
          intro I30 J31 s0_32 hI30 FI30 FJ31 KLT_I30 KTK_I30 m_32 e0_32 e2_32 z_32
          clear hv2_8_23 hv3_8_23 hv4_23 e0_23 e1_23 e2_23 e3_23 e4_23 t24 f25 f26 f27 f28 f29 hv2_8 hv3_8 e3_8 e5_8 e6_8 t9 f10 f11 f12 f13 f14
          obtain ⟨hs0_32, e1_32, e3_32, e4_32⟩ := m_32
          have t33 := gc_TK_mo KTK_I30
          have f34 := (show 0 ≤ I30 23 1 ∧ I30 23 1 ≤ 1000 from gc_in hI30 R_23 rfl rfl)
          have f35 := (show 0 ≤ I30 23 5 ∧ I30 23 5 ≤ 1000 from gc_in hI30 R_23 rfl rfl)
          have f36 := (show 0 ≤ I30 23 6 ∧ I30 23 6 ≤ 1001 from gc_in hI30 R_23 rfl rfl)
          have f37 := (show 0 ≤ I30 23 7 ∧ I30 23 7 ≤ 125 from gc_in hI30 R_23 rfl rfl)
          have f38 := (show 0 ≤ I30 4 1 ∧ I30 4 1 ≤ 96 from gc_in hI30 R_4 rfl rfl)
          exact gv_iret hD rfl ⟨I30, J31, rfl, hI30, FI30, FJ31, ⟨_, rfl, by omega, by omega, by omega, e0_32, by omega, e2_32, z_32⟩⟩
        have L193 : ∀ (I39 : gr_I) (J40 : gr_J) , gc_Inv ro I39 → (∀ q j : Nat, ((q = 39 ∧ j = 3) ∨ (q = 39 ∧ j = 4) ∨ (q = 23 ∧ j = 5) ∨ (q = 23 ∧ j = 6) ∨ (q = 23 ∧ j = 7) ∨ (q = 23 ∧ j = 8) ∨ q = a1 ∨ q = 46 ∨ q = 47) ∨ I39 q j = I q j) → (∀ q j : Nat, ((q = 23 ∧ j = 9)) ∨ J40 q j = J q j) → gc_LT I39 → gc_TK I39 → ((I39 23 1 = I 23 1) ∧ (I39 4 1 = I 4 1)) → gt_M β η (gt_cf β η I J) (gt_ca I) (gt_ck I) (gt_cg I) 60 0 [] = -1 - I39 23 5 → gv_X (gc_E6 ws0 tb 3 (yX6_readTree, cX6_readTree, 5, (some .int)) kX6_readTree) (gv_Q cX6_readTree (some .int) sh (fun r h' => (∃ (I' : gr_I) (J' : gr_J), h' = gc_h sh I' J' A ∧ gc_Inv ro I' ∧ (∀ q j : Nat, ((q = 39 ∧ j = 3) ∨ (q = 39 ∧ j = 4) ∨ (q = 23 ∧ j = 5) ∨ (q = 23 ∧ j = 6) ∨ (q = 23 ∧ j = 7) ∨ (q = 23 ∧ j = 8) ∨ q = a1 ∨ q = 46 ∨ q = 47) ∨ I' q j = I q j) ∧ (∀ q j : Nat, ((q = 23 ∧ j = 9)) ∨ J' q j = J q j) ∧ (∃ z : Int, r = some (.inl z) ∧ (-1001) ≤ z ∧ z ≤ 60 ∧ (I' 23 1 = I 23 1) ∧ (z ≤ 0 ∨ gc_wtr I' a1 z) ∧ (z ≤ 60) ∧ (z ≤ 0 ∨ gc_rg a1 I' z 0 (I 4 1 - 1)) ∧ (z = gt_M β η (gt_cf β η I J) (gt_ca I) (gt_ck I) (gt_cg I) 60 0 []))))) (193, [(0, .inr (.inr (some 39)))], [], sh, gc_h sh I39 J40 A) := by
          intro I39 J40 hI39 FI39 FJ40 KLT_I39 KTK_I39 m_41 n_41
          clear hv2_8_23 hv3_8_23 hv4_23 e0_23 e1_23 e2_23 e3_23 e4_23 t24 f25 f26 f27 f28 f29 hv2_8 hv3_8 e3_8 e5_8 e6_8 t9 f10 f11 f12 f13 f14
          obtain ⟨e0_41, e1_41⟩ := m_41
          have t42 := gc_TK_mo KTK_I39
          have f43 := (show 0 ≤ I39 23 1 ∧ I39 23 1 ≤ 1000 from gc_in hI39 R_23 rfl rfl)
          have f44 := (show 0 ≤ I39 23 5 ∧ I39 23 5 ≤ 1000 from gc_in hI39 R_23 rfl rfl)
          have f45 := (show 0 ≤ I39 23 6 ∧ I39 23 6 ≤ 1001 from gc_in hI39 R_23 rfl rfl)
          have f46 := (show 0 ≤ I39 23 7 ∧ I39 23 7 ≤ 125 from gc_in hI39 R_23 rfl rfl)
          have f47 := (show 0 ≤ I39 4 1 ∧ I39 4 1 ≤ 96 from gc_in hI39 R_4 rfl rfl)
          refine gv_run 2 true hD (pc' := 195) (lv' := [(0, .inr (.inr (some 39)))]) (st' := [.inr (.inr (some 39)), .inl (-1)]) (h' := gc_h sh I39 J40 A) (C := ((True ∧ True) ∧ True)) rfl ⟨⟨trivial, trivial⟩, trivial⟩ ?_
          refine gv_get hD rfl rfl S_39 ⟨by decide, B_39⟩ (gc_hA S_39 rfl A_39_1) ?_
          show gv_X _ _ (198, [(0, .inr (.inr (some 39)))], [.inr (.inr (some 23)), .inl (-1)], sh, gc_h sh I39 J40 A)
          have f48 := (show 0 ≤ I39 23 5 ∧ I39 23 5 ≤ 1000 from gc_in hI39 R_23 rfl rfl)
          refine gv_get hD rfl rfl S_23 ⟨by decide, B_23⟩ (gc_hI S_23 rfl) ?_
          show gv_X _ _ (201, [(0, .inr (.inr (some 39)))], [.inl (I39 23 5), .inl (-1)], sh, gc_h sh I39 J40 A)
          refine gv_run 1 true hD (pc' := 202) (lv' := [(0, .inr (.inr (some 39)))]) (st' := [.inl ((-1) - (I39 23 5))]) (h' := gc_h sh I39 J40 A) (C := (True ∧ True)) rfl ⟨trivial, trivial⟩ ?_
          refine gv_pick [] rfl ?_
          exact L202 I39 J40 (((-1) - (I39 23 5))) hI39 FI39 FJ40 KLT_I39 KTK_I39 (by omega) (Or.inl (by omega)) (Or.inl (by omega)) n_41.symm
        refine gv_run 4 true hD (pc' := 93) (lv' := [(2, .inl (v2_8 + 1)), (0, .inr (.inr (some 39))), (1, .inr (.inr (some a1))), (3, .inl v3_8), (4, .inl v4_23)]) (st' := [.inl v4_23, .inl v2_8, .inr (.inr (some a1))]) (h' := gc_h sh I6 J7 A) (C := ((((True ∧ True) ∧ True) ∧ True) ∧ True)) rfl ⟨⟨⟨⟨trivial, trivial⟩, trivial⟩, trivial⟩, trivial⟩ ?_
        refine gv_iast hD rfl S_a1 ⟨by omega, B_a1⟩ ⟨by omega, by omega⟩ ?_
        refine gc_st hI6 S_a1 rfl R_a1 (lo := 0) (hi := 95) rfl rfl (by omega) (by omega) (fun I49 hI49 q50 p50 => ?_)
        have FI49 := gc_frs (W := fun q j => (q = 39 ∧ j = 3) ∨ (q = 39 ∧ j = 4) ∨ (q = 23 ∧ j = 5) ∨ (q = 23 ∧ j = 6) ∨ (q = 23 ∧ j = 7) ∨ (q = 23 ∧ j = 8) ∨ q = a1 ∨ q = 46 ∨ q = 47) FI6 (Or.inr (Or.inr (Or.inr (Or.inr (Or.inr (Or.inr (Or.inl rfl))))))) p50
        have t51 := p50 23 1 (fun h => absurd h.1 N_23__a1)
        have t52 := p50 23 5 (fun h => absurd h.1 N_23__a1)
        have t53 := p50 23 6 (fun h => absurd h.1 N_23__a1)
        have t54 := p50 23 7 (fun h => absurd h.1 N_23__a1)
        have t55 := p50 4 1 (fun h => absurd h.1 N_4__a1)
        have KLT_I49 := gc_LT_fr KLT_I6 (p50 23 5 (fun h => absurd h.1 N_23__a1)) (p50 23 6 (fun h => absurd h.1 N_23__a1)) (p50 23 7 (fun h => absurd h.1 N_23__a1)) (fun k => p50 24 k (fun h => absurd h.1 N_24__a1))
        have KTK_I49 := gc_TK_fr KTK_I6 (p50 23 1 (fun h => absurd h.1 N_23__a1)) (p50 23 5 (fun h => absurd h.1 N_23__a1)) (p50 23 6 (fun h => absurd h.1 N_23__a1)) (p50 23 7 (fun h => absurd h.1 N_23__a1))
        show gv_X _ _ (94, [(2, .inl (v2_8 + 1)), (0, .inr (.inr (some 39))), (1, .inr (.inr (some a1))), (3, .inl v3_8), (4, .inl v4_23)], [], sh, gc_h sh I49 J7 A)
        refine gv_run 1 true hD (pc' := 95) (lv' := [(2, .inl (v2_8 + 1)), (0, .inr (.inr (some 39))), (1, .inr (.inr (some a1))), (3, .inl v3_8), (4, .inl v4_23)]) (st' := [.inr (.inr (some 39))]) (h' := gc_h sh I49 J7 A) (C := (True ∧ True)) rfl ⟨trivial, trivial⟩ ?_
        refine gv_get hD rfl rfl S_39 ⟨by decide, B_39⟩ (gc_hA S_39 rfl A_39_1) ?_
        show gv_X _ _ (98, [(2, .inl (v2_8 + 1)), (0, .inr (.inr (some 39))), (1, .inr (.inr (some a1))), (3, .inl v3_8), (4, .inl v4_23)], [.inr (.inr (some 23))], sh, gc_h sh I49 J7 A)
        have bT : gc_AT β η p9 23 I49 J7 := gc_AT_I aT (p50 23 1 (fun h => absurd h.1 N_23__a1)) (p50 23 5 (fun h => absurd h.1 N_23__a1)) (p50 23 6 (fun h => absurd h.1 N_23__a1)) (p50 23 7 (fun h => absurd h.1 N_23__a1)) (p50 23 8 (fun h => absurd h.1 N_23__a1)) (fun k => p50 24 k (fun h => absurd h.1 N_24__a1))
        have t57 := gc_TK_nx KTK_I49 (by omega)
        obtain ⟨r56, h56, E56, P56⟩ := d_X9_advance_p (ws0 := ws0) (tb := tb) hws htb sh ro I49 J7 A hI49 23 β η (gc_b23 hb) (by omega) bT.1.1 bT.1.2
        obtain ⟨I58, J59, rfl, hI58, g56, k56, ⟨rfl, V56_0, V56_1, V56_2, V56_3, V56_4, q56⟩⟩ := P56
        have FI58 := gc_frc (W := fun q j => (q = 39 ∧ j = 3) ∨ (q = 39 ∧ j = 4) ∨ (q = 23 ∧ j = 5) ∨ (q = 23 ∧ j = 6) ∨ (q = 23 ∧ j = 7) ∨ (q = 23 ∧ j = 8) ∨ q = a1 ∨ q = 46 ∨ q = 47) (V := fun q j => (q = 23 ∧ j = 5) ∨ (q = 23 ∧ j = 6) ∨ (q = 23 ∧ j = 7) ∨ (q = 23 ∧ j = 8)) FI49 (fun q j h => (h.elim (fun h => (Or.inr (Or.inr (Or.inl h)))) (fun h => (h.elim (fun h => (Or.inr (Or.inr (Or.inr (Or.inl h))))) (fun h => (h.elim (fun h => (Or.inr (Or.inr (Or.inr (Or.inr (Or.inl h)))))) (fun h => (Or.inr (Or.inr (Or.inr (Or.inr (Or.inr (Or.inl h))))))))))))) g56
        have FJ59 := gc_frc (W := fun q j => (q = 23 ∧ j = 9)) (V := fun q j => (q = 23 ∧ j = 9)) FJ7 (fun q j h => h) k56
        have t60 := (g56 23 1).resolve_left (fun h => h.elim (fun h => absurd h.2 (by decide)) (fun h => h.elim (fun h => absurd h.2 (by decide)) (fun h => h.elim (fun h => absurd h.2 (by decide)) (fun h => absurd h.2 (by decide)))))
        have t61 := (g56 4 1).resolve_left (fun h => h.elim (fun h => absurd h.2 (by decide)) (fun h => h.elim (fun h => absurd h.2 (by decide)) (fun h => h.elim (fun h => absurd h.2 (by decide)) (fun h => absurd h.2 (by decide)))))
        have f62 := (show 0 ≤ I58 23 5 ∧ I58 23 5 ≤ 1000 from gc_in hI58 R_23 rfl rfl)
        have f63 := (show 0 ≤ I58 23 6 ∧ I58 23 6 ≤ 1001 from gc_in hI58 R_23 rfl rfl)
        have f64 := (show 0 ≤ I58 23 7 ∧ I58 23 7 ≤ 125 from gc_in hI58 R_23 rfl rfl)
        have KLT_I58 : gc_LT I58 := q56.2.2.1
        have bT2 : gc_AT β η (gs_X β η p9) 23 I58 J59 := gc_AT_nx bT q56.2.2.2
        have bK : I58 23 7 = gs_T β η (gs_X β η p9) := bT2.2.1
        have bA : I58 23 5 = gs_A β η (gs_X β η p9) := bT2.2.2.1
        have yR : gt_ca I v4_23 = I58 12 (Int.toNat v4_23) := ((FI58 12 (Int.toNat v4_23)).resolve_left (by omega)).symm
        have KTK_I58 : gc_TK I58 := And.intro V56_0 (And.intro V56_1 (And.intro V56_2 (And.intro V56_3 V56_4)))
        have t65 := gc_TK_mo KTK_I58
        clear V56_0 V56_1 V56_2 V56_3 V56_4
        refine gv_callV hD rfl (As := []) (st := []) rfl B_23 S_23 rfl (gc_lV6 hws rfl) (Nat.le_of_ble_eq_true rfl) (gz_Ev_mono (d := 2) (by decide) E56) ?_
        show gv_X _ _ (101, [(2, .inl (v2_8 + 1)), (0, .inr (.inr (some 39))), (1, .inr (.inr (some a1))), (3, .inl v3_8), (4, .inl v4_23)], [], sh, gc_h sh I58 J59 A)
        refine gv_run 1 true hD (pc' := 102) (lv' := [(2, .inl (v2_8 + 1)), (0, .inr (.inr (some 39))), (1, .inr (.inr (some a1))), (3, .inl v3_8), (4, .inl v4_23)]) (st' := [.inr (.inr (some 39))]) (h' := gc_h sh I58 J59 A) (C := (True ∧ True)) rfl ⟨trivial, trivial⟩ ?_
        refine gv_get hD rfl rfl S_39 ⟨by decide, B_39⟩ (gc_hA S_39 rfl A_39_0) ?_
        show gv_X _ _ (105, [(2, .inl (v2_8 + 1)), (0, .inr (.inr (some 39))), (1, .inr (.inr (some a1))), (3, .inl v3_8), (4, .inl v4_23)], [.inr (.inr (some 1))], sh, gc_h sh I58 J59 A)
        refine gv_get hD rfl rfl S_1 ⟨by decide, B_1⟩ (gc_hA S_1 rfl A_1_7) ?_
        show gv_X _ _ (108, [(2, .inl (v2_8 + 1)), (0, .inr (.inr (some 39))), (1, .inr (.inr (some a1))), (3, .inl v3_8), (4, .inl v4_23)], [.inr (.inr (some 12))], sh, gc_h sh I58 J59 A)
        refine gv_run 1 true hD (pc' := 110) (lv' := [(2, .inl (v2_8 + 1)), (0, .inr (.inr (some 39))), (1, .inr (.inr (some a1))), (3, .inl v3_8), (4, .inl v4_23)]) (st' := [.inl v4_23, .inr (.inr (some 12))]) (h' := gc_h sh I58 J59 A) (C := (True ∧ True)) rfl ⟨trivial, trivial⟩ ?_
        have f66 := (show 0 ≤ I58 12 (Int.toNat v4_23) ∧ I58 12 (Int.toNat v4_23) ≤ 4 from gc_in hI58 R_12 rfl rfl)
        refine gv_iald hD rfl S_12 rfl ⟨by decide, B_12⟩ ⟨by omega, by omega⟩ (gc_iI S_12 rfl) ?_
        show gv_X _ _ (111, [(2, .inl (v2_8 + 1)), (0, .inr (.inr (some 39))), (1, .inr (.inr (some a1))), (3, .inl v3_8), (4, .inl v4_23)], [.inl (I58 12 (Int.toNat v4_23))], sh, gc_h sh I58 J59 A)
        refine gv_if_le (t := 164) hD rfl rfl ⟨by omega, by omega⟩ (fun c67 => ?_) (fun c67 => ?_)
        · show gv_X _ _ (164, [(2, .inl (v2_8 + 1)), (0, .inr (.inr (some 39))), (1, .inr (.inr (some a1))), (3, .inl v3_8), (4, .inl v4_23)], [], sh, gc_h sh I58 J59 A)
          refine gv_run 2 true hD (pc' := 166) (lv' := [(2, .inl (v2_8 + 1)), (0, .inr (.inr (some 39))), (1, .inr (.inr (some a1))), (3, .inl v3_8), (4, .inl v4_23)]) (st' := [.inl v3_8, .inr (.inr (some 39))]) (h' := gc_h sh I58 J59 A) (C := ((True ∧ True) ∧ True)) rfl ⟨⟨trivial, trivial⟩, trivial⟩ ?_
          obtain ⟨r68, h68, E68, P68⟩ := d_X6_closeArguments_p (ws0 := ws0) (tb := tb) hws htb sh ro I58 J59 A hI58  v3_8 β η (gs_X β η p9) hb   ⟨by omega, by omega⟩ (gc_SE_fr (n := v3_8) e0_8 (fun k hk => (((g56 47 k).resolve_left (by omega)).trans (p50 47 k (fun h => absurd h.1 (by omega))))) (fun k hk => (((g56 46 k).resolve_left (by omega)).trans (p50 46 k (fun h => absurd h.1 (by omega))))) (fun k => (((g56 12 k).resolve_left (by omega)).trans (p50 12 k (fun h => absurd h.1 (by omega)))))) KLT_I58 KTK_I58 bT2
          obtain ⟨I69, J70, rfl, hI69, g68, k68, KLT_I69, KTK_I69, ⟨z68, rfl, q68⟩⟩ := P68
          obtain ⟨q9, dT, kq⟩ : gt_Cp β η I58 v3_8 (gs_X β η p9) I69 J70 z68 := q68.2.2.2.2.2.2.2.2
          have eA : gt_ca I58 = gt_ca I := funext fun f => (FI58 12 (Int.toNat f)).resolve_left (by omega)
          rw [eA, (gt_st_fr (I := I6) (I' := I58) (d := Int.toNat v3_8) (fun k hk => ((g56 46 k).resolve_left (by omega)).trans (p50 46 k (fun h => absurd h.1 (by omega)))) (fun k hk => ((g56 47 k).resolve_left (by omega)).trans (p50 47 k (fun h => absurd h.1 (by omega)))))] at kq
          have kC := kq (fun q s9 => gt_M β η (gt_cf β η I J) (gt_ca I) (gt_ck I) (gt_cg I) (Int.toNat (60 - (v2_8 + 1))) q s9) (v2_8 + 1)
          have dS := aW.trans (gt_W_0 rfl (by omega))
          have dA : I69 23 5 = gs_A β η q9 := dT.2.2.1
          have dK : I69 23 7 = gs_T β η q9 := dT.2.1
          have FI69 := gc_frc (W := fun q j => (q = 39 ∧ j = 3) ∨ (q = 39 ∧ j = 4) ∨ (q = 23 ∧ j = 5) ∨ (q = 23 ∧ j = 6) ∨ (q = 23 ∧ j = 7) ∨ (q = 23 ∧ j = 8) ∨ q = a1 ∨ q = 46 ∨ q = 47) (V := fun q j => (q = 39 ∧ j = 3) ∨ (q = 39 ∧ j = 4) ∨ (q = 23 ∧ j = 5) ∨ (q = 23 ∧ j = 6) ∨ (q = 23 ∧ j = 7) ∨ (q = 23 ∧ j = 8) ∨ q = 47) FI58 (fun q j h => (h.elim (fun h => (Or.inl h)) (fun h => (h.elim (fun h => (Or.inr (Or.inl h))) (fun h => (h.elim (fun h => (Or.inr (Or.inr (Or.inl h)))) (fun h => (h.elim (fun h => (Or.inr (Or.inr (Or.inr (Or.inl h))))) (fun h => (h.elim (fun h => (Or.inr (Or.inr (Or.inr (Or.inr (Or.inl h)))))) (fun h => (h.elim (fun h => (Or.inr (Or.inr (Or.inr (Or.inr (Or.inr (Or.inl h))))))) (fun h => (Or.inr (Or.inr (Or.inr (Or.inr (Or.inr (Or.inr (Or.inr (Or.inr h))))))))))))))))))))) g68
          have FJ70 := gc_frc (W := fun q j => (q = 23 ∧ j = 9)) (V := fun q j => (q = 23 ∧ j = 9)) FJ59 (fun q j h => h) k68
          have t71 := (g68 23 1).resolve_left (fun h => h.elim (fun h => absurd h.2 (by decide)) (fun h => h.elim (fun h => absurd h.2 (by decide)) (fun h => h.elim (fun h => absurd h.2 (by decide)) (fun h => h.elim (fun h => absurd h.2 (by decide)) (fun h => h.elim (fun h => absurd h.2 (by decide)) (fun h => h.elim (fun h => absurd h.2 (by decide)) (fun h => absurd h (by decide))))))))
          have t72 := (g68 4 1).resolve_left (fun h => h.elim (fun h => absurd h.2 (by decide)) (fun h => h.elim (fun h => absurd h.2 (by decide)) (fun h => h.elim (fun h => absurd h.2 (by decide)) (fun h => h.elim (fun h => absurd h.2 (by decide)) (fun h => h.elim (fun h => absurd h.2 (by decide)) (fun h => h.elim (fun h => absurd h.2 (by decide)) (fun h => absurd h (by decide))))))))
          have f73 := (show 0 ≤ I69 23 5 ∧ I69 23 5 ≤ 1000 from gc_in hI69 R_23 rfl rfl)
          have f74 := (show 0 ≤ I69 23 6 ∧ I69 23 6 ≤ 1001 from gc_in hI69 R_23 rfl rfl)
          have f75 := (show 0 ≤ I69 23 7 ∧ I69 23 7 ≤ 125 from gc_in hI69 R_23 rfl rfl)
          have t76 := gc_TK_mo KTK_I69
          refine gv_callV hD rfl (As := [.inl v3_8]) (st := []) rfl B_39 S_39 rfl (gc_lV6 hws rfl) (Nat.le_of_ble_eq_true rfl) (gz_Ev_mono (d := 3) (by decide) E68) ?_
          show gv_X _ _ (169, [(2, .inl (v2_8 + 1)), (0, .inr (.inr (some 39))), (1, .inr (.inr (some a1))), (3, .inl v3_8), (4, .inl v4_23)], [.inl z68], sh, gc_h sh I69 J70 A)
          refine gv_run 2 true hD (pc' := 171) (lv' := [(3, .inl z68), (2, .inl (v2_8 + 1)), (0, .inr (.inr (some 39))), (1, .inr (.inr (some a1))), (4, .inl v4_23)]) (st' := [.inl z68]) (h' := gc_h sh I69 J70 A) (C := ((True ∧ True) ∧ True)) rfl ⟨⟨trivial, trivial⟩, trivial⟩ ?_
          refine gv_if_gt (t := 203) hD rfl rfl ⟨by omega, by omega⟩ (fun c77 => ?_) (fun c77 => ?_)
          · show gv_X _ _ (203, [(3, .inl z68), (2, .inl (v2_8 + 1)), (0, .inr (.inr (some 39))), (1, .inr (.inr (some a1))), (4, .inl v4_23)], [], sh, gc_h sh I69 J70 A)
            refine gv_run 1 true hD (pc' := 11) (lv' := [(3, .inl z68), (2, .inl (v2_8 + 1)), (0, .inr (.inr (some 39))), (1, .inr (.inr (some a1))), (4, .inl v4_23)]) (st' := []) (h' := gc_h sh I69 J70 A) (C := (True ∧ True)) rfl ⟨trivial, trivial⟩ ?_
            refine gv_pick [2, 3, 1, 0] rfl ?_
            exact ih11 I69 J70 (v2_8 + 1) z68 (by omega) hI69 FI69 FJ70 KLT_I69 KTK_I69 (by omega) q68.2.2.2.2.2.1 (by have h1 := gc_op_fr (I := I6) (I' := I69) (T := a1) (n := Int.toNat v2_8) (fun k hk => ((((g68 a1 k).resolve_left (by omega)).trans ((g56 a1 k).resolve_left (by omega))).trans (p50 a1 k (fun h => by have := h.2; omega)))) (fun k => ((((g68 12 k).resolve_left (by omega)).trans ((g56 12 k).resolve_left (by omega))).trans (p50 12 k (fun h => absurd h.1 (by omega))))); have h2 := gc_ss_fr (I := I6) (I' := I58) (d := Int.toNat v3_8) (fun k hk => (((g56 47 k).resolve_left (by omega)).trans (p50 47 k (fun h => absurd h.1 (by omega))))) (fun k hk => (((g56 46 k).resolve_left (by omega)).trans (p50 46 k (fun h => absurd h.1 (by omega))))) (fun k => (((g56 12 k).resolve_left (by omega)).trans (p50 12 k (fun h => absurd h.1 (by omega))))); have h3 : I69 a1 (Int.toNat v2_8) = v4_23 := (((g68 a1 (Int.toNat v2_8)).resolve_left (by omega)).trans ((g56 a1 (Int.toNat v2_8)).resolve_left (by omega))).trans q50; have h7 : I69 12 (Int.toNat v4_23) = I58 12 (Int.toNat v4_23) := ((g68 12 (Int.toNat v4_23)).resolve_left (by omega)); have h6 := e1_8; have h8 := q68.2.2.2.2.2.2.2.1; have h9 := q68.2.2.2.2.2.2.1; rw [show Int.toNat (v2_8 + 1) = Int.toNat v2_8 + 1 from by omega]; show gc_op I69 a1 (Int.toNat v2_8) - 1 + I69 12 (Int.toNat (I69 a1 (Int.toNat v2_8))) = 1 + gc_ss I69 (Int.toNat z68); rw [h3]; omega) (fun k hk => by have h1 := gc_ss_nn (I := I6) (d := Int.toNat v3_8) (fun j hj => e0_8 j (by omega)); have h2 := e1_8; exact (if hkk : k = Int.toNat v2_8 then (by rw [hkk, gc_op_fr (I := I6) (I' := I69) (T := a1) (n := Int.toNat v2_8) (fun k hk => ((((g68 a1 k).resolve_left (by omega)).trans ((g56 a1 k).resolve_left (by omega))).trans (p50 a1 k (fun h => by have := h.2; omega)))) (fun k => ((((g68 12 k).resolve_left (by omega)).trans ((g56 12 k).resolve_left (by omega))).trans (p50 12 k (fun h => absurd h.1 (by omega)))))]; omega) else (by rw [gc_op_fr (I := I6) (I' := I69) (T := a1) (n := k) (fun k hk => ((((g68 a1 k).resolve_left (by omega)).trans ((g56 a1 k).resolve_left (by omega))).trans (p50 a1 k (fun h => by have := h.2; omega)))) (fun k => ((((g68 12 k).resolve_left (by omega)).trans ((g56 12 k).resolve_left (by omega))).trans (p50 12 k (fun h => absurd h.1 (by omega)))))]; exact e2_8 k (by omega)))) (gc_rg_fr (gc_rg_fr (gc_rg_push e4_8 (by omega) p50 (by omega)) (fun k => (g56 a1 k).resolve_left (by omega))) (fun k => (g68 a1 k).resolve_left (by omega))) ⟨q9, dT, dS.trans (kC.2.2 (by omega))⟩
          · show gv_X _ _ (174, [(3, .inl z68), (2, .inl (v2_8 + 1)), (0, .inr (.inr (some 39))), (1, .inr (.inr (some a1))), (4, .inl v4_23)], [], sh, gc_h sh I69 J70 A)
            refine gv_run 1 true hD (pc' := 175) (lv' := [(3, .inl z68), (2, .inl (v2_8 + 1)), (0, .inr (.inr (some 39))), (1, .inr (.inr (some a1))), (4, .inl v4_23)]) (st' := [.inl z68]) (h' := gc_h sh I69 J70 A) (C := (True ∧ True)) rfl ⟨trivial, trivial⟩ ?_
            refine gv_if_ne (t := 193) hD rfl rfl ⟨by omega, by omega⟩ (fun c78 => ?_) (fun c78 => ?_)
            · show gv_X _ _ (193, [(3, .inl z68), (2, .inl (v2_8 + 1)), (0, .inr (.inr (some 39))), (1, .inr (.inr (some a1))), (4, .inl v4_23)], [], sh, gc_h sh I69 J70 A)
              refine gv_pick [2] rfl ?_
              exact L193 I69 J70 hI69 FI69 FJ70 KLT_I69 KTK_I69 (by omega) (by rw [dA]; exact dS.trans (kC.1 (by omega)))
            · show gv_X _ _ (178, [(3, .inl z68), (2, .inl (v2_8 + 1)), (0, .inr (.inr (some 39))), (1, .inr (.inr (some a1))), (4, .inl v4_23)], [], sh, gc_h sh I69 J70 A)
              refine gv_run 1 true hD (pc' := 179) (lv' := [(3, .inl z68), (2, .inl (v2_8 + 1)), (0, .inr (.inr (some 39))), (1, .inr (.inr (some a1))), (4, .inl v4_23)]) (st' := [.inr (.inr (some 39))]) (h' := gc_h sh I69 J70 A) (C := (True ∧ True)) rfl ⟨trivial, trivial⟩ ?_
              refine gv_get hD rfl rfl S_39 ⟨by decide, B_39⟩ (gc_hA S_39 rfl A_39_1) ?_
              show gv_X _ _ (182, [(3, .inl z68), (2, .inl (v2_8 + 1)), (0, .inr (.inr (some 39))), (1, .inr (.inr (some a1))), (4, .inl v4_23)], [.inr (.inr (some 23))], sh, gc_h sh I69 J70 A)
              have f79 := (show 0 ≤ I69 23 7 ∧ I69 23 7 ≤ 125 from gc_in hI69 R_23 rfl rfl)
              refine gv_get hD rfl rfl S_23 ⟨by decide, B_23⟩ (gc_hI S_23 rfl) ?_
              show gv_X _ _ (185, [(3, .inl z68), (2, .inl (v2_8 + 1)), (0, .inr (.inr (some 39))), (1, .inr (.inr (some a1))), (4, .inl v4_23)], [.inl (I69 23 7)], sh, gc_h sh I69 J70 A)
              refine gv_run 1 true hD (pc' := 186) (lv' := [(3, .inl z68), (2, .inl (v2_8 + 1)), (0, .inr (.inr (some 39))), (1, .inr (.inr (some a1))), (4, .inl v4_23)]) (st' := [.inl 4, .inl (I69 23 7)]) (h' := gc_h sh I69 J70 A) (C := (True ∧ True)) rfl ⟨trivial, trivial⟩ ?_
              refine gv_icmp_ne (t := 193) hD rfl rfl ⟨⟨by omega, by omega⟩, ⟨by omega, by omega⟩⟩ (fun c80 => ?_) (fun c80 => ?_)
              · show gv_X _ _ (193, [(3, .inl z68), (2, .inl (v2_8 + 1)), (0, .inr (.inr (some 39))), (1, .inr (.inr (some a1))), (4, .inl v4_23)], [], sh, gc_h sh I69 J70 A)
                refine gv_pick [2] rfl ?_
                exact L193 I69 J70 hI69 FI69 FJ70 KLT_I69 KTK_I69 (by omega) (by rw [dA]; exact dS.trans ((kC.2.1 (by omega)).trans (by rw [gt_C_n, if_neg (by omega)])))
              · show gv_X _ _ (189, [(3, .inl z68), (2, .inl (v2_8 + 1)), (0, .inr (.inr (some 39))), (1, .inr (.inr (some a1))), (4, .inl v4_23)], [], sh, gc_h sh I69 J70 A)
                refine gv_run 2 true hD (pc' := 202) (lv' := [(3, .inl z68), (2, .inl (v2_8 + 1)), (0, .inr (.inr (some 39))), (1, .inr (.inr (some a1))), (4, .inl v4_23)]) (st' := [.inl (v2_8 + 1)]) (h' := gc_h sh I69 J70 A) (C := ((True ∧ True) ∧ True)) rfl ⟨⟨trivial, trivial⟩, trivial⟩ ?_
                refine gv_pick [] rfl ?_
                exact L202 I69 J70 (v2_8 + 1) hI69 FI69 FJ70 KLT_I69 KTK_I69 (by omega) (Or.inr (And.intro (fun k hk => by have h1 := gc_ss_nn (I := I6) (d := Int.toNat v3_8) (fun j hj => e0_8 j (by omega)); have h2 := e1_8; exact (if hkk : k = Int.toNat v2_8 then (by rw [hkk, gc_op_fr (I := I6) (I' := I69) (T := a1) (n := Int.toNat v2_8) (fun k hk => ((((g68 a1 k).resolve_left (by omega)).trans ((g56 a1 k).resolve_left (by omega))).trans (p50 a1 k (fun h => by have := h.2; omega)))) (fun k => ((((g68 12 k).resolve_left (by omega)).trans ((g56 12 k).resolve_left (by omega))).trans (p50 12 k (fun h => absurd h.1 (by omega)))))]; omega) else (by rw [gc_op_fr (I := I6) (I' := I69) (T := a1) (n := k) (fun k hk => ((((g68 a1 k).resolve_left (by omega)).trans ((g56 a1 k).resolve_left (by omega))).trans (p50 a1 k (fun h => by have := h.2; omega)))) (fun k => ((((g68 12 k).resolve_left (by omega)).trans ((g56 12 k).resolve_left (by omega))).trans (p50 12 k (fun h => absurd h.1 (by omega)))))]; exact e2_8 k (by omega)))) (by have h1 := gc_op_fr (I := I6) (I' := I69) (T := a1) (n := Int.toNat v2_8) (fun k hk => ((((g68 a1 k).resolve_left (by omega)).trans ((g56 a1 k).resolve_left (by omega))).trans (p50 a1 k (fun h => by have := h.2; omega)))) (fun k => ((((g68 12 k).resolve_left (by omega)).trans ((g56 12 k).resolve_left (by omega))).trans (p50 12 k (fun h => absurd h.1 (by omega))))); have h2 := gc_ss_fr (I := I6) (I' := I58) (d := Int.toNat v3_8) (fun k hk => (((g56 47 k).resolve_left (by omega)).trans (p50 47 k (fun h => absurd h.1 (by omega))))) (fun k hk => (((g56 46 k).resolve_left (by omega)).trans (p50 46 k (fun h => absurd h.1 (by omega))))) (fun k => (((g56 12 k).resolve_left (by omega)).trans (p50 12 k (fun h => absurd h.1 (by omega))))); have h3 : I69 a1 (Int.toNat v2_8) = v4_23 := (((g68 a1 (Int.toNat v2_8)).resolve_left (by omega)).trans ((g56 a1 (Int.toNat v2_8)).resolve_left (by omega))).trans q50; have h7 : I69 12 (Int.toNat v4_23) = I58 12 (Int.toNat v4_23) := ((g68 12 (Int.toNat v4_23)).resolve_left (by omega)); have h6 := e1_8; have h8 := q68.2.2.2.2.2.2.2.1; have h9 := q68.2.2.2.2.2.2.1; rw [show Int.toNat (v2_8 + 1) = Int.toNat v2_8 + 1 from by omega]; show gc_op I69 a1 (Int.toNat v2_8) - 1 + I69 12 (Int.toNat (I69 a1 (Int.toNat v2_8))) = 0; rw [h3]; omega))) (Or.inr (gc_rg_fr (gc_rg_fr (gc_rg_push e4_8 (by omega) p50 (by omega)) (fun k => (g56 a1 k).resolve_left (by omega))) (fun k => (g68 a1 k).resolve_left (by omega)))) (by rw [dS, kC.2.1 (by omega), gt_C_n, if_pos (by omega)])
        · show gv_X _ _ (114, [(2, .inl (v2_8 + 1)), (0, .inr (.inr (some 39))), (1, .inr (.inr (some a1))), (3, .inl v3_8), (4, .inl v4_23)], [], sh, gc_h sh I58 J59 A)
          refine gv_run 1 true hD (pc' := 115) (lv' := [(2, .inl (v2_8 + 1)), (0, .inr (.inr (some 39))), (1, .inr (.inr (some a1))), (3, .inl v3_8), (4, .inl v4_23)]) (st' := [.inr (.inr (some 39))]) (h' := gc_h sh I58 J59 A) (C := (True ∧ True)) rfl ⟨trivial, trivial⟩ ?_
          refine gv_get hD rfl rfl S_39 ⟨by decide, B_39⟩ (gc_hA S_39 rfl A_39_1) ?_
          show gv_X _ _ (118, [(2, .inl (v2_8 + 1)), (0, .inr (.inr (some 39))), (1, .inr (.inr (some a1))), (3, .inl v3_8), (4, .inl v4_23)], [.inr (.inr (some 23))], sh, gc_h sh I58 J59 A)
          have f81 := (show 0 ≤ I58 23 7 ∧ I58 23 7 ≤ 125 from gc_in hI58 R_23 rfl rfl)
          refine gv_get hD rfl rfl S_23 ⟨by decide, B_23⟩ (gc_hI S_23 rfl) ?_
          show gv_X _ _ (121, [(2, .inl (v2_8 + 1)), (0, .inr (.inr (some 39))), (1, .inr (.inr (some a1))), (3, .inl v3_8), (4, .inl v4_23)], [.inl (I58 23 7)], sh, gc_h sh I58 J59 A)
          refine gv_run 1 true hD (pc' := 123) (lv' := [(2, .inl (v2_8 + 1)), (0, .inr (.inr (some 39))), (1, .inr (.inr (some a1))), (3, .inl v3_8), (4, .inl v4_23)]) (st' := [.inl 40, .inl (I58 23 7)]) (h' := gc_h sh I58 J59 A) (C := (True ∧ True)) rfl ⟨trivial, trivial⟩ ?_
          refine gv_icmp_eq (t := 136) hD rfl rfl ⟨⟨by omega, by omega⟩, ⟨by omega, by omega⟩⟩ (fun c82 => ?_) (fun c82 => ?_)
          · show gv_X _ _ (136, [(2, .inl (v2_8 + 1)), (0, .inr (.inr (some 39))), (1, .inr (.inr (some a1))), (3, .inl v3_8), (4, .inl v4_23)], [], sh, gc_h sh I58 J59 A)
            refine gv_run 1 true hD (pc' := 137) (lv' := [(2, .inl (v2_8 + 1)), (0, .inr (.inr (some 39))), (1, .inr (.inr (some a1))), (3, .inl v3_8), (4, .inl v4_23)]) (st' := [.inr (.inr (some 39))]) (h' := gc_h sh I58 J59 A) (C := (True ∧ True)) rfl ⟨trivial, trivial⟩ ?_
            refine gv_get hD rfl rfl S_39 ⟨by decide, B_39⟩ (gc_hA S_39 rfl A_39_17) ?_
            show gv_X _ _ (140, [(2, .inl (v2_8 + 1)), (0, .inr (.inr (some 39))), (1, .inr (.inr (some a1))), (3, .inl v3_8), (4, .inl v4_23)], [.inr (.inr (some 46))], sh, gc_h sh I58 J59 A)
            refine gv_run 2 true hD (pc' := 143) (lv' := [(2, .inl (v2_8 + 1)), (0, .inr (.inr (some 39))), (1, .inr (.inr (some a1))), (3, .inl v3_8), (4, .inl v4_23)]) (st' := [.inl v4_23, .inl v3_8, .inr (.inr (some 46))]) (h' := gc_h sh I58 J59 A) (C := ((True ∧ True) ∧ True)) rfl ⟨⟨trivial, trivial⟩, trivial⟩ ?_
            refine gv_iast hD rfl S_46 ⟨by decide, B_46⟩ ⟨by omega, by omega⟩ ?_
            refine gc_st hI58 S_46 rfl R_46 (lo := 0) (hi := 95) rfl rfl (by omega) (by omega) (fun I83 hI83 q84 p84 => ?_)
            have FI83 := gc_frs (W := fun q j => (q = 39 ∧ j = 3) ∨ (q = 39 ∧ j = 4) ∨ (q = 23 ∧ j = 5) ∨ (q = 23 ∧ j = 6) ∨ (q = 23 ∧ j = 7) ∨ (q = 23 ∧ j = 8) ∨ q = a1 ∨ q = 46 ∨ q = 47) FI58 (Or.inr (Or.inr (Or.inr (Or.inr (Or.inr (Or.inr (Or.inr (Or.inl rfl)))))))) p84
            have t85 := p84 23 1 (fun h => absurd h.1 (by decide))
            have t86 := p84 23 5 (fun h => absurd h.1 (by decide))
            have t87 := p84 23 6 (fun h => absurd h.1 (by decide))
            have t88 := p84 23 7 (fun h => absurd h.1 (by decide))
            have t89 := p84 4 1 (fun h => absurd h.1 (by decide))
            have KLT_I83 := gc_LT_fr KLT_I58 (p84 23 5 (fun h => absurd h.1 (by decide))) (p84 23 6 (fun h => absurd h.1 (by decide))) (p84 23 7 (fun h => absurd h.1 (by decide))) (fun k => p84 24 k (fun h => absurd h.1 (by decide)))
            have KTK_I83 := gc_TK_fr KTK_I58 (p84 23 1 (fun h => absurd h.1 (by decide))) (p84 23 5 (fun h => absurd h.1 (by decide))) (p84 23 6 (fun h => absurd h.1 (by decide))) (p84 23 7 (fun h => absurd h.1 (by decide)))
            show gv_X _ _ (144, [(2, .inl (v2_8 + 1)), (0, .inr (.inr (some 39))), (1, .inr (.inr (some a1))), (3, .inl v3_8), (4, .inl v4_23)], [], sh, gc_h sh I83 J59 A)
            refine gv_run 1 true hD (pc' := 145) (lv' := [(2, .inl (v2_8 + 1)), (0, .inr (.inr (some 39))), (1, .inr (.inr (some a1))), (3, .inl v3_8), (4, .inl v4_23)]) (st' := [.inr (.inr (some 39))]) (h' := gc_h sh I83 J59 A) (C := (True ∧ True)) rfl ⟨trivial, trivial⟩ ?_
            refine gv_get hD rfl rfl S_39 ⟨by decide, B_39⟩ (gc_hA S_39 rfl A_39_18) ?_
            show gv_X _ _ (148, [(2, .inl (v2_8 + 1)), (0, .inr (.inr (some 39))), (1, .inr (.inr (some a1))), (3, .inl v3_8), (4, .inl v4_23)], [.inr (.inr (some 47))], sh, gc_h sh I83 J59 A)
            refine gv_run 2 true hD (pc' := 150) (lv' := [(2, .inl (v2_8 + 1)), (0, .inr (.inr (some 39))), (1, .inr (.inr (some a1))), (3, .inl v3_8), (4, .inl v4_23)]) (st' := [.inl 0, .inl v3_8, .inr (.inr (some 47))]) (h' := gc_h sh I83 J59 A) (C := ((True ∧ True) ∧ True)) rfl ⟨⟨trivial, trivial⟩, trivial⟩ ?_
            refine gv_iast hD rfl S_47 ⟨by decide, B_47⟩ ⟨by omega, by omega⟩ ?_
            refine gc_st hI83 S_47 rfl R_47 (lo := (-2147483648)) (hi := 2147483647) rfl rfl (by omega) (by omega) (fun I90 hI90 q91 p91 => ?_)
            have FI90 := gc_frs (W := fun q j => (q = 39 ∧ j = 3) ∨ (q = 39 ∧ j = 4) ∨ (q = 23 ∧ j = 5) ∨ (q = 23 ∧ j = 6) ∨ (q = 23 ∧ j = 7) ∨ (q = 23 ∧ j = 8) ∨ q = a1 ∨ q = 46 ∨ q = 47) FI83 (Or.inr (Or.inr (Or.inr (Or.inr (Or.inr (Or.inr (Or.inr (Or.inr rfl)))))))) p91
            have t92 := p91 23 1 (fun h => absurd h.1 (by decide))
            have t93 := p91 23 5 (fun h => absurd h.1 (by decide))
            have t94 := p91 23 6 (fun h => absurd h.1 (by decide))
            have t95 := p91 23 7 (fun h => absurd h.1 (by decide))
            have t96 := p91 4 1 (fun h => absurd h.1 (by decide))
            have KLT_I90 := gc_LT_fr KLT_I83 (p91 23 5 (fun h => absurd h.1 (by decide))) (p91 23 6 (fun h => absurd h.1 (by decide))) (p91 23 7 (fun h => absurd h.1 (by decide))) (fun k => p91 24 k (fun h => absurd h.1 (by decide)))
            have KTK_I90 := gc_TK_fr KTK_I83 (p91 23 1 (fun h => absurd h.1 (by decide))) (p91 23 5 (fun h => absurd h.1 (by decide))) (p91 23 6 (fun h => absurd h.1 (by decide))) (p91 23 7 (fun h => absurd h.1 (by decide)))
            show gv_X _ _ (151, [(2, .inl (v2_8 + 1)), (0, .inr (.inr (some 39))), (1, .inr (.inr (some a1))), (3, .inl v3_8), (4, .inl v4_23)], [], sh, gc_h sh I90 J59 A)
            refine gv_run 2 true hD (pc' := 155) (lv' := [(3, .inl (v3_8 + 1)), (2, .inl (v2_8 + 1)), (0, .inr (.inr (some 39))), (1, .inr (.inr (some a1))), (4, .inl v4_23)]) (st' := [.inr (.inr (some 39))]) (h' := gc_h sh I90 J59 A) (C := ((True ∧ True) ∧ True)) rfl ⟨⟨trivial, trivial⟩, trivial⟩ ?_
            refine gv_get hD rfl rfl S_39 ⟨by decide, B_39⟩ (gc_hA S_39 rfl A_39_1) ?_
            show gv_X _ _ (158, [(3, .inl (v3_8 + 1)), (2, .inl (v2_8 + 1)), (0, .inr (.inr (some 39))), (1, .inr (.inr (some a1))), (4, .inl v4_23)], [.inr (.inr (some 23))], sh, gc_h sh I90 J59 A)
            have eT : gc_AT β η (gs_X β η p9) 23 I83 J59 := gc_AT_I bT2 (p84 23 1 (fun h => absurd h.1 (by decide))) (p84 23 5 (fun h => absurd h.1 (by decide))) (p84 23 6 (fun h => absurd h.1 (by decide))) (p84 23 7 (fun h => absurd h.1 (by decide))) (p84 23 8 (fun h => absurd h.1 (by decide))) (fun k => p84 24 k (fun h => absurd h.1 (by decide)))
            have fT : gc_AT β η (gs_X β η p9) 23 I90 J59 := gc_AT_I eT (p91 23 1 (fun h => absurd h.1 (by decide))) (p91 23 5 (fun h => absurd h.1 (by decide))) (p91 23 6 (fun h => absurd h.1 (by decide))) (p91 23 7 (fun h => absurd h.1 (by decide))) (p91 23 8 (fun h => absurd h.1 (by decide))) (fun k => p91 24 k (fun h => absurd h.1 (by decide)))
            have t98 := gc_TK_nx KTK_I90 (by omega)
            obtain ⟨r97, h97, E97, P97⟩ := d_X9_advance_p (ws0 := ws0) (tb := tb) hws htb sh ro I90 J59 A hI90 23 β η (gc_b23 hb) (by omega) fT.1.1 fT.1.2
            obtain ⟨I99, J100, rfl, hI99, g97, k97, ⟨rfl, V97_0, V97_1, V97_2, V97_3, V97_4, q97⟩⟩ := P97
            have FI99 := gc_frc (W := fun q j => (q = 39 ∧ j = 3) ∨ (q = 39 ∧ j = 4) ∨ (q = 23 ∧ j = 5) ∨ (q = 23 ∧ j = 6) ∨ (q = 23 ∧ j = 7) ∨ (q = 23 ∧ j = 8) ∨ q = a1 ∨ q = 46 ∨ q = 47) (V := fun q j => (q = 23 ∧ j = 5) ∨ (q = 23 ∧ j = 6) ∨ (q = 23 ∧ j = 7) ∨ (q = 23 ∧ j = 8)) FI90 (fun q j h => (h.elim (fun h => (Or.inr (Or.inr (Or.inl h)))) (fun h => (h.elim (fun h => (Or.inr (Or.inr (Or.inr (Or.inl h))))) (fun h => (h.elim (fun h => (Or.inr (Or.inr (Or.inr (Or.inr (Or.inl h)))))) (fun h => (Or.inr (Or.inr (Or.inr (Or.inr (Or.inr (Or.inl h))))))))))))) g97
            have FJ100 := gc_frc (W := fun q j => (q = 23 ∧ j = 9)) (V := fun q j => (q = 23 ∧ j = 9)) FJ59 (fun q j h => h) k97
            have t101 := (g97 23 1).resolve_left (fun h => h.elim (fun h => absurd h.2 (by decide)) (fun h => h.elim (fun h => absurd h.2 (by decide)) (fun h => h.elim (fun h => absurd h.2 (by decide)) (fun h => absurd h.2 (by decide)))))
            have t102 := (g97 4 1).resolve_left (fun h => h.elim (fun h => absurd h.2 (by decide)) (fun h => h.elim (fun h => absurd h.2 (by decide)) (fun h => h.elim (fun h => absurd h.2 (by decide)) (fun h => absurd h.2 (by decide)))))
            have f103 := (show 0 ≤ I99 23 5 ∧ I99 23 5 ≤ 1000 from gc_in hI99 R_23 rfl rfl)
            have f104 := (show 0 ≤ I99 23 6 ∧ I99 23 6 ≤ 1001 from gc_in hI99 R_23 rfl rfl)
            have f105 := (show 0 ≤ I99 23 7 ∧ I99 23 7 ≤ 125 from gc_in hI99 R_23 rfl rfl)
            have KLT_I99 : gc_LT I99 := q97.2.2.1
            have gT : gc_AT β η (gs_X β η (gs_X β η p9)) 23 I99 J100 := gc_AT_nx fT q97.2.2.2
            have KTK_I99 : gc_TK I99 := And.intro V97_0 (And.intro V97_1 (And.intro V97_2 (And.intro V97_3 V97_4)))
            have t106 := gc_TK_mo KTK_I99
            clear V97_0 V97_1 V97_2 V97_3 V97_4
            refine gv_callV hD rfl (As := []) (st := []) rfl B_23 S_23 rfl (gc_lV6 hws rfl) (Nat.le_of_ble_eq_true rfl) (gz_Ev_mono (d := 2) (by decide) E97) ?_
            show gv_X _ _ (161, [(3, .inl (v3_8 + 1)), (2, .inl (v2_8 + 1)), (0, .inr (.inr (some 39))), (1, .inr (.inr (some a1))), (4, .inl v4_23)], [], sh, gc_h sh I99 J100 A)
            refine gv_run 1 true hD (pc' := 11) (lv' := [(3, .inl (v3_8 + 1)), (2, .inl (v2_8 + 1)), (0, .inr (.inr (some 39))), (1, .inr (.inr (some a1))), (4, .inl v4_23)]) (st' := []) (h' := gc_h sh I99 J100 A) (C := (True ∧ True)) rfl ⟨trivial, trivial⟩ ?_
            refine gv_pick [2, 3, 1, 0] rfl ?_
            exact ih11 I99 J100 (v2_8 + 1) (v3_8 + 1) (by omega) hI99 FI99 FJ100 KLT_I99 KTK_I99 (by omega) (fun k hk => by have h4 : I99 46 (Int.toNat v3_8) = v4_23 := (((g97 46 (Int.toNat v3_8)).resolve_left (by omega)).trans (p91 46 (Int.toNat v3_8) (fun h => absurd h.1 (by omega)))).trans q84; have h5 : I99 47 (Int.toNat v3_8) = 0 := ((g97 47 (Int.toNat v3_8)).resolve_left (by omega)).trans q91; have h7 : I99 12 (Int.toNat v4_23) = I58 12 (Int.toNat v4_23) := ((((g97 12 (Int.toNat v4_23)).resolve_left (by omega)).trans (p91 12 (Int.toNat v4_23) (fun h => absurd h.1 (by omega)))).trans (p84 12 (Int.toNat v4_23) (fun h => absurd h.1 (by omega)))); exact (if hkk : k = Int.toNat v3_8 then (by rw [hkk, h4, h5]; omega) else (gc_SE_fr (n := v3_8) e0_8 (fun k hk => ((((((g97 47 k).resolve_left (by omega)).trans (p91 47 k (fun h => by have := h.2; omega))).trans (p84 47 k (fun h => absurd h.1 (by omega)))).trans ((g56 47 k).resolve_left (by omega))).trans (p50 47 k (fun h => absurd h.1 (by omega))))) (fun k hk => ((((((g97 46 k).resolve_left (by omega)).trans (p91 46 k (fun h => absurd h.1 (by omega)))).trans (p84 46 k (fun h => by have := h.2; omega))).trans ((g56 46 k).resolve_left (by omega))).trans (p50 46 k (fun h => absurd h.1 (by omega))))) (fun k => ((((((g97 12 k).resolve_left (by omega)).trans (p91 12 k (fun h => absurd h.1 (by omega)))).trans (p84 12 k (fun h => absurd h.1 (by omega)))).trans ((g56 12 k).resolve_left (by omega))).trans (p50 12 k (fun h => absurd h.1 (by omega))))) k (by omega)))) (by have h1 := gc_op_fr (I := I6) (I' := I99) (T := a1) (n := Int.toNat v2_8) (fun k hk => ((((((g97 a1 k).resolve_left (by omega)).trans (p91 a1 k (fun h => absurd h.1 (by omega)))).trans (p84 a1 k (fun h => absurd h.1 (by omega)))).trans ((g56 a1 k).resolve_left (by omega))).trans (p50 a1 k (fun h => by have := h.2; omega)))) (fun k => ((((((g97 12 k).resolve_left (by omega)).trans (p91 12 k (fun h => absurd h.1 (by omega)))).trans (p84 12 k (fun h => absurd h.1 (by omega)))).trans ((g56 12 k).resolve_left (by omega))).trans (p50 12 k (fun h => absurd h.1 (by omega))))); have h2 := gc_ss_fr (I := I6) (I' := I99) (d := Int.toNat v3_8) (fun k hk => ((((((g97 47 k).resolve_left (by omega)).trans (p91 47 k (fun h => by have := h.2; omega))).trans (p84 47 k (fun h => absurd h.1 (by omega)))).trans ((g56 47 k).resolve_left (by omega))).trans (p50 47 k (fun h => absurd h.1 (by omega))))) (fun k hk => ((((((g97 46 k).resolve_left (by omega)).trans (p91 46 k (fun h => absurd h.1 (by omega)))).trans (p84 46 k (fun h => by have := h.2; omega))).trans ((g56 46 k).resolve_left (by omega))).trans (p50 46 k (fun h => absurd h.1 (by omega))))) (fun k => ((((((g97 12 k).resolve_left (by omega)).trans (p91 12 k (fun h => absurd h.1 (by omega)))).trans (p84 12 k (fun h => absurd h.1 (by omega)))).trans ((g56 12 k).resolve_left (by omega))).trans (p50 12 k (fun h => absurd h.1 (by omega))))); have h3 : I99 a1 (Int.toNat v2_8) = v4_23 := (((((g97 a1 (Int.toNat v2_8)).resolve_left (by omega)).trans (p91 a1 (Int.toNat v2_8) (fun h => absurd h.1 (by omega)))).trans (p84 a1 (Int.toNat v2_8) (fun h => absurd h.1 (by omega)))).trans ((g56 a1 (Int.toNat v2_8)).resolve_left (by omega))).trans q50; have h4 : I99 46 (Int.toNat v3_8) = v4_23 := (((g97 46 (Int.toNat v3_8)).resolve_left (by omega)).trans (p91 46 (Int.toNat v3_8) (fun h => absurd h.1 (by omega)))).trans q84; have h5 : I99 47 (Int.toNat v3_8) = 0 := ((g97 47 (Int.toNat v3_8)).resolve_left (by omega)).trans q91; have h7 : I99 12 (Int.toNat v4_23) = I58 12 (Int.toNat v4_23) := ((((g97 12 (Int.toNat v4_23)).resolve_left (by omega)).trans (p91 12 (Int.toNat v4_23) (fun h => absurd h.1 (by omega)))).trans (p84 12 (Int.toNat v4_23) (fun h => absurd h.1 (by omega)))); have h6 := e1_8; rw [show Int.toNat (v2_8 + 1) = Int.toNat v2_8 + 1 from by omega, show Int.toNat (v3_8 + 1) = Int.toNat v3_8 + 1 from by omega]; show gc_op I99 a1 (Int.toNat v2_8) - 1 + I99 12 (Int.toNat (I99 a1 (Int.toNat v2_8))) = 1 + (gc_ss I99 (Int.toNat v3_8) + (I99 12 (Int.toNat (I99 46 (Int.toNat v3_8))) - I99 47 (Int.toNat v3_8) - 1)); rw [h3, h4]; omega) (fun k hk => by have h1 := gc_ss_nn (I := I6) (d := Int.toNat v3_8) (fun j hj => e0_8 j (by omega)); have h2 := e1_8; exact (if hkk : k = Int.toNat v2_8 then (by rw [hkk, gc_op_fr (I := I6) (I' := I99) (T := a1) (n := Int.toNat v2_8) (fun k hk => ((((((g97 a1 k).resolve_left (by omega)).trans (p91 a1 k (fun h => absurd h.1 (by omega)))).trans (p84 a1 k (fun h => absurd h.1 (by omega)))).trans ((g56 a1 k).resolve_left (by omega))).trans (p50 a1 k (fun h => by have := h.2; omega)))) (fun k => ((((((g97 12 k).resolve_left (by omega)).trans (p91 12 k (fun h => absurd h.1 (by omega)))).trans (p84 12 k (fun h => absurd h.1 (by omega)))).trans ((g56 12 k).resolve_left (by omega))).trans (p50 12 k (fun h => absurd h.1 (by omega)))))]; omega) else (by rw [gc_op_fr (I := I6) (I' := I99) (T := a1) (n := k) (fun k hk => ((((((g97 a1 k).resolve_left (by omega)).trans (p91 a1 k (fun h => absurd h.1 (by omega)))).trans (p84 a1 k (fun h => absurd h.1 (by omega)))).trans ((g56 a1 k).resolve_left (by omega))).trans (p50 a1 k (fun h => by have := h.2; omega)))) (fun k => ((((((g97 12 k).resolve_left (by omega)).trans (p91 12 k (fun h => absurd h.1 (by omega)))).trans (p84 12 k (fun h => absurd h.1 (by omega)))).trans ((g56 12 k).resolve_left (by omega))).trans (p50 12 k (fun h => absurd h.1 (by omega)))))]; exact e2_8 k (by omega)))) (gc_rg_fr (gc_rg_fr (gc_rg_fr (gc_rg_fr (gc_rg_push e4_8 (by omega) p50 (by omega)) (fun k => (g56 a1 k).resolve_left (by omega))) (fun k => p84 a1 k (fun h => absurd h.1 (by omega)))) (fun k => p91 a1 k (fun h => absurd h.1 (by omega)))) (fun k => (g97 a1 k).resolve_left (by omega))) ⟨gs_X β η (gs_X β η p9), gT, (aW.trans (gt_W_m (by omega) (Int.le_refl 0) (Or.inl ⟨rfl, rfl⟩) (by omega))).trans (by rw [gt_st_s (I := I99) (d := v3_8 + 1) (by omega), show v3_8 + 1 - 1 = v3_8 from by omega, show I99 46 (Int.toNat v3_8) = v4_23 from (((g97 46 (Int.toNat v3_8)).resolve_left (by omega)).trans (p91 46 (Int.toNat v3_8) (fun h => absurd h.1 (by omega)))).trans q84, show I99 47 (Int.toNat v3_8) = 0 from ((g97 47 (Int.toNat v3_8)).resolve_left (by omega)).trans q91, gt_st_fr (I := I6) (I' := I99) (d := Int.toNat v3_8) (fun k hk => ((((g97 46 k).resolve_left (by omega)).trans (p91 46 k (fun h => absurd h.1 (by omega)))).trans (p84 46 k (fun h => by have := h.2; omega))).trans (((g56 46 k).resolve_left (by omega)).trans (p50 46 k (fun h => absurd h.1 (by omega))))) (fun k hk => ((((g97 47 k).resolve_left (by omega)).trans (p91 47 k (fun h => by have := h.2; omega))).trans (p84 47 k (fun h => absurd h.1 (by omega)))).trans (((g56 47 k).resolve_left (by omega)).trans (p50 47 k (fun h => absurd h.1 (by omega)))))])⟩
          · show gv_X _ _ (126, [(2, .inl (v2_8 + 1)), (0, .inr (.inr (some 39))), (1, .inr (.inr (some a1))), (3, .inl v3_8), (4, .inl v4_23)], [], sh, gc_h sh I58 J59 A)
            refine gv_run 2 true hD (pc' := 128) (lv' := [(2, .inl (v2_8 + 1)), (0, .inr (.inr (some 39))), (1, .inr (.inr (some a1))), (3, .inl v3_8), (4, .inl v4_23)]) (st' := [.inr (.inr (some 39)), .inl (-1)]) (h' := gc_h sh I58 J59 A) (C := ((True ∧ True) ∧ True)) rfl ⟨⟨trivial, trivial⟩, trivial⟩ ?_
            refine gv_get hD rfl rfl S_39 ⟨by decide, B_39⟩ (gc_hA S_39 rfl A_39_1) ?_
            show gv_X _ _ (131, [(2, .inl (v2_8 + 1)), (0, .inr (.inr (some 39))), (1, .inr (.inr (some a1))), (3, .inl v3_8), (4, .inl v4_23)], [.inr (.inr (some 23)), .inl (-1)], sh, gc_h sh I58 J59 A)
            have f107 := (show 0 ≤ I58 23 5 ∧ I58 23 5 ≤ 1000 from gc_in hI58 R_23 rfl rfl)
            refine gv_get hD rfl rfl S_23 ⟨by decide, B_23⟩ (gc_hI S_23 rfl) ?_
            show gv_X _ _ (134, [(2, .inl (v2_8 + 1)), (0, .inr (.inr (some 39))), (1, .inr (.inr (some a1))), (3, .inl v3_8), (4, .inl v4_23)], [.inl (I58 23 5), .inl (-1)], sh, gc_h sh I58 J59 A)
            refine gv_run 1 true hD (pc' := 135) (lv' := [(2, .inl (v2_8 + 1)), (0, .inr (.inr (some 39))), (1, .inr (.inr (some a1))), (3, .inl v3_8), (4, .inl v4_23)]) (st' := [.inl ((-1) - (I58 23 5))]) (h' := gc_h sh I58 J59 A) (C := (True ∧ True)) rfl ⟨trivial, trivial⟩ ?_
            exact gv_iret hD rfl ⟨I58, J59, rfl, hI58, FI58, FJ59, ⟨_, rfl, by omega, by omega, by omega, (Or.inl (by omega)), by omega, (Or.inl (by omega)), by rw [aW.trans (gt_W_f (by omega) (Int.le_refl 0) (Or.inl ⟨rfl, rfl⟩) (by omega)), bA]⟩⟩
      have L206 : ((I6 23 1 = I 23 1) ∧ (I6 4 1 = I 4 1)) → gt_M β η (gt_cf β η I J) (gt_ca I) (gt_ck I) (gt_cg I) 60 0 [] = -1 - gs_A β η p9 → gv_X (gc_E6 ws0 tb 3 (yX6_readTree, cX6_readTree, 5, (some .int)) kX6_readTree) (gv_Q cX6_readTree (some .int) sh (fun r h' => (∃ (I' : gr_I) (J' : gr_J), h' = gc_h sh I' J' A ∧ gc_Inv ro I' ∧ (∀ q j : Nat, ((q = 39 ∧ j = 3) ∨ (q = 39 ∧ j = 4) ∨ (q = 23 ∧ j = 5) ∨ (q = 23 ∧ j = 6) ∨ (q = 23 ∧ j = 7) ∨ (q = 23 ∧ j = 8) ∨ q = a1 ∨ q = 46 ∨ q = 47) ∨ I' q j = I q j) ∧ (∀ q j : Nat, ((q = 23 ∧ j = 9)) ∨ J' q j = J q j) ∧ (∃ z : Int, r = some (.inl z) ∧ (-1001) ≤ z ∧ z ≤ 60 ∧ (I' 23 1 = I 23 1) ∧ (z ≤ 0 ∨ gc_wtr I' a1 z) ∧ (z ≤ 60) ∧ (z ≤ 0 ∨ gc_rg a1 I' z 0 (I 4 1 - 1)) ∧ (z = gt_M β η (gt_cf β η I J) (gt_ca I) (gt_ck I) (gt_cg I) 60 0 []))))) (206, [(0, .inr (.inr (some 39)))], [], sh, gc_h sh I6 J7 A) := by
        intro m_108 n_9
        obtain ⟨e0_108, e1_108⟩ := m_108
        have t109 := gc_TK_mo KTK_I6
        have f110 := (show 0 ≤ I6 23 1 ∧ I6 23 1 ≤ 1000 from gc_in hI6 R_23 rfl rfl)
        have f111 := (show 0 ≤ I6 23 5 ∧ I6 23 5 ≤ 1000 from gc_in hI6 R_23 rfl rfl)
        have f112 := (show 0 ≤ I6 23 6 ∧ I6 23 6 ≤ 1001 from gc_in hI6 R_23 rfl rfl)
        have f113 := (show 0 ≤ I6 23 7 ∧ I6 23 7 ≤ 125 from gc_in hI6 R_23 rfl rfl)
        have f114 := (show 0 ≤ I6 4 1 ∧ I6 4 1 ≤ 96 from gc_in hI6 R_4 rfl rfl)
        refine gv_run 2 true hD (pc' := 208) (lv' := [(0, .inr (.inr (some 39)))]) (st' := [.inr (.inr (some 39)), .inl (-1)]) (h' := gc_h sh I6 J7 A) (C := ((True ∧ True) ∧ True)) rfl ⟨⟨trivial, trivial⟩, trivial⟩ ?_
        refine gv_get hD rfl rfl S_39 ⟨by decide, B_39⟩ (gc_hA S_39 rfl A_39_1) ?_
        show gv_X _ _ (211, [(0, .inr (.inr (some 39)))], [.inr (.inr (some 23)), .inl (-1)], sh, gc_h sh I6 J7 A)
        have f115 := (show 0 ≤ I6 23 5 ∧ I6 23 5 ≤ 1000 from gc_in hI6 R_23 rfl rfl)
        refine gv_get hD rfl rfl S_23 ⟨by decide, B_23⟩ (gc_hI S_23 rfl) ?_
        show gv_X _ _ (214, [(0, .inr (.inr (some 39)))], [.inl (I6 23 5), .inl (-1)], sh, gc_h sh I6 J7 A)
        refine gv_run 1 true hD (pc' := 215) (lv' := [(0, .inr (.inr (some 39)))]) (st' := [.inl ((-1) - (I6 23 5))]) (h' := gc_h sh I6 J7 A) (C := (True ∧ True)) rfl ⟨trivial, trivial⟩ ?_
        exact gv_iret hD rfl ⟨I6, J7, rfl, hI6, FI6, FJ7, ⟨_, rfl, by omega, by omega, by omega, (Or.inl (by omega)), by omega, (Or.inl (by omega)), by rw [n_9, aA]⟩⟩
      refine gv_run 2 true hD (pc' := 14) (lv' := [(0, .inr (.inr (some 39))), (1, .inr (.inr (some a1))), (2, .inl v2_8), (3, .inl v3_8)]) (st' := [.inl 60, .inl v2_8]) (h' := gc_h sh I6 J7 A) (C := ((True ∧ True) ∧ True)) rfl ⟨⟨trivial, trivial⟩, trivial⟩ ?_
      refine gv_icmp_ge (t := 206) hD rfl rfl ⟨⟨by omega, by omega⟩, ⟨by omega, by omega⟩⟩ (fun c116 => ?_) (fun c116 => ?_)
      · show gv_X _ _ (206, [(0, .inr (.inr (some 39))), (1, .inr (.inr (some a1))), (2, .inl v2_8), (3, .inl v3_8)], [], sh, gc_h sh I6 J7 A)
        refine gv_pick [0] rfl ?_
        exact L206 (by omega) (aS.trans (gt_M_z (by omega)))
      · show gv_X _ _ (17, [(0, .inr (.inr (some 39))), (1, .inr (.inr (some a1))), (2, .inl v2_8), (3, .inl v3_8)], [], sh, gc_h sh I6 J7 A)
        refine gv_run 1 true hD (pc' := 18) (lv' := [(0, .inr (.inr (some 39))), (1, .inr (.inr (some a1))), (2, .inl v2_8), (3, .inl v3_8)]) (st' := [.inr (.inr (some 39))]) (h' := gc_h sh I6 J7 A) (C := (True ∧ True)) rfl ⟨trivial, trivial⟩ ?_
        refine gv_get hD rfl rfl S_39 ⟨by decide, B_39⟩ (gc_hA S_39 rfl A_39_1) ?_
        show gv_X _ _ (21, [(0, .inr (.inr (some 39))), (1, .inr (.inr (some a1))), (2, .inl v2_8), (3, .inl v3_8)], [.inr (.inr (some 23))], sh, gc_h sh I6 J7 A)
        have f117 := (show 0 ≤ I6 23 7 ∧ I6 23 7 ≤ 125 from gc_in hI6 R_23 rfl rfl)
        refine gv_get hD rfl rfl S_23 ⟨by decide, B_23⟩ (gc_hI S_23 rfl) ?_
        show gv_X _ _ (24, [(0, .inr (.inr (some 39))), (1, .inr (.inr (some a1))), (2, .inl v2_8), (3, .inl v3_8)], [.inl (I6 23 7)], sh, gc_h sh I6 J7 A)
        refine gv_run 1 true hD (pc' := 25) (lv' := [(0, .inr (.inr (some 39))), (1, .inr (.inr (some a1))), (2, .inl v2_8), (3, .inl v3_8)]) (st' := [.inl 1, .inl (I6 23 7)]) (h' := gc_h sh I6 J7 A) (C := (True ∧ True)) rfl ⟨trivial, trivial⟩ ?_
        refine gv_icmp_ne (t := 206) hD rfl rfl ⟨⟨by omega, by omega⟩, ⟨by omega, by omega⟩⟩ (fun c118 => ?_) (fun c118 => ?_)
        · show gv_X _ _ (206, [(0, .inr (.inr (some 39))), (1, .inr (.inr (some a1))), (2, .inl v2_8), (3, .inl v3_8)], [], sh, gc_h sh I6 J7 A)
          refine gv_pick [0] rfl ?_
          exact L206 (by omega) (aS.trans (gt_M_n (fun h9 => by have h8 := h9.1; omega)))
        · show gv_X _ _ (28, [(0, .inr (.inr (some 39))), (1, .inr (.inr (some a1))), (2, .inl v2_8), (3, .inl v3_8)], [], sh, gc_h sh I6 J7 A)
          refine gv_run 1 true hD (pc' := 29) (lv' := [(0, .inr (.inr (some 39))), (1, .inr (.inr (some a1))), (2, .inl v2_8), (3, .inl v3_8)]) (st' := [.inr (.inr (some 39))]) (h' := gc_h sh I6 J7 A) (C := (True ∧ True)) rfl ⟨trivial, trivial⟩ ?_
          refine gv_get hD rfl rfl S_39 ⟨by decide, B_39⟩ (gc_hA S_39 rfl A_39_0) ?_
          show gv_X _ _ (32, [(0, .inr (.inr (some 39))), (1, .inr (.inr (some a1))), (2, .inl v2_8), (3, .inl v3_8)], [.inr (.inr (some 1))], sh, gc_h sh I6 J7 A)
          refine gv_get hD rfl rfl S_1 ⟨by decide, B_1⟩ (gc_hA S_1 rfl A_1_1) ?_
          show gv_X _ _ (35, [(0, .inr (.inr (some 39))), (1, .inr (.inr (some a1))), (2, .inl v2_8), (3, .inl v3_8)], [.inr (.inr (some 4))], sh, gc_h sh I6 J7 A)
          refine gv_run 1 true hD (pc' := 36) (lv' := [(0, .inr (.inr (some 39))), (1, .inr (.inr (some a1))), (2, .inl v2_8), (3, .inl v3_8)]) (st' := [.inr (.inr (some 39)), .inr (.inr (some 4))]) (h' := gc_h sh I6 J7 A) (C := (True ∧ True)) rfl ⟨trivial, trivial⟩ ?_
          refine gv_get hD rfl rfl S_39 ⟨by decide, B_39⟩ (gc_hA S_39 rfl A_39_1) ?_
          show gv_X _ _ (39, [(0, .inr (.inr (some 39))), (1, .inr (.inr (some a1))), (2, .inl v2_8), (3, .inl v3_8)], [.inr (.inr (some 23)), .inr (.inr (some 4))], sh, gc_h sh I6 J7 A)
          refine gv_get hD rfl rfl S_23 ⟨by decide, B_23⟩ (gc_hJ S_23 rfl) ?_
          show gv_X _ _ (42, [(0, .inr (.inr (some 39))), (1, .inr (.inr (some a1))), (2, .inl v2_8), (3, .inl v3_8)], [.inr (.inl (J7 23 9)), .inr (.inr (some 4))], sh, gc_h sh I6 J7 A)
          obtain ⟨r119, h119, E119, P119⟩ := d_X4_find (ws0 := ws0) (tb := tb) hws htb sh ro I6 J7 A hI6 4 96 11 (J7 23 9) (gc_b4 hb)     
          obtain ⟨rfl, ⟨z119, rfl, q119⟩⟩ := P119
          have zT : gs_T β η p9 = 1 := by omega
          have zF : z119 = gt_cf β η I J p9 := by
            rw [q119.2.2.2, gc_AT_m aT zT, show J7 (4 + 1) = J 5 from funext fun k => yj k, yq 4 1 (Or.inl rfl)]
            rfl
          refine gv_callV hD rfl (As := [.inr (.inl (J7 23 9))]) (st := []) rfl B_4 S_4 rfl (gc_lV6 hws rfl) (Nat.le_of_ble_eq_true rfl) (gz_Ev_mono (d := 1) (by decide) E119) ?_
          show gv_X _ _ (45, [(0, .inr (.inr (some 39))), (1, .inr (.inr (some a1))), (2, .inl v2_8), (3, .inl v3_8)], [.inl z119], sh, gc_h sh I6 J7 A)
          refine gv_run 2 true hD (pc' := 49) (lv' := [(4, .inl z119), (0, .inr (.inr (some 39))), (1, .inr (.inr (some a1))), (2, .inl v2_8), (3, .inl v3_8)]) (st' := [.inl z119]) (h' := gc_h sh I6 J7 A) (C := ((True ∧ True) ∧ True)) rfl ⟨⟨trivial, trivial⟩, trivial⟩ ?_
          refine gv_if_lt (t := 76) hD rfl rfl ⟨by omega, by omega⟩ (fun c120 => ?_) (fun c120 => ?_)
          · show gv_X _ _ (76, [(4, .inl z119), (0, .inr (.inr (some 39))), (1, .inr (.inr (some a1))), (2, .inl v2_8), (3, .inl v3_8)], [], sh, gc_h sh I6 J7 A)
            refine gv_pick [1] rfl ?_
            exact L76 (by omega) (aS.trans (gt_M_n (fun h9 => by have h8 := h9.2.1; omega)))
          · show gv_X _ _ (52, [(4, .inl z119), (0, .inr (.inr (some 39))), (1, .inr (.inr (some a1))), (2, .inl v2_8), (3, .inl v3_8)], [], sh, gc_h sh I6 J7 A)
            refine gv_run 1 true hD (pc' := 53) (lv' := [(4, .inl z119), (0, .inr (.inr (some 39))), (1, .inr (.inr (some a1))), (2, .inl v2_8), (3, .inl v3_8)]) (st' := [.inl v3_8]) (h' := gc_h sh I6 J7 A) (C := (True ∧ True)) rfl ⟨trivial, trivial⟩ ?_
            refine gv_if_le (t := 86) hD rfl rfl ⟨by omega, by omega⟩ (fun c121 => ?_) (fun c121 => ?_)
            · show gv_X _ _ (86, [(4, .inl z119), (0, .inr (.inr (some 39))), (1, .inr (.inr (some a1))), (2, .inl v2_8), (3, .inl v3_8)], [], sh, gc_h sh I6 J7 A)
              refine gv_pick [1, 2, 3, 4, 0] rfl ?_
              exact L86 z119 (by omega) ⟨⟨zF, zT⟩, by rw [show Int.toNat v3_8 = 0 from by omega]; rfl⟩
            · show gv_X _ _ (56, [(4, .inl z119), (0, .inr (.inr (some 39))), (1, .inr (.inr (some a1))), (2, .inl v2_8), (3, .inl v3_8)], [], sh, gc_h sh I6 J7 A)
              refine gv_run 1 true hD (pc' := 57) (lv' := [(4, .inl z119), (0, .inr (.inr (some 39))), (1, .inr (.inr (some a1))), (2, .inl v2_8), (3, .inl v3_8)]) (st' := [.inr (.inr (some 39))]) (h' := gc_h sh I6 J7 A) (C := (True ∧ True)) rfl ⟨trivial, trivial⟩ ?_
              refine gv_get hD rfl rfl S_39 ⟨by decide, B_39⟩ (gc_hA S_39 rfl A_39_0) ?_
              show gv_X _ _ (60, [(4, .inl z119), (0, .inr (.inr (some 39))), (1, .inr (.inr (some a1))), (2, .inl v2_8), (3, .inl v3_8)], [.inr (.inr (some 1))], sh, gc_h sh I6 J7 A)
              refine gv_get hD rfl rfl S_1 ⟨by decide, B_1⟩ (gc_hA S_1 rfl A_1_6) ?_
              show gv_X _ _ (63, [(4, .inl z119), (0, .inr (.inr (some 39))), (1, .inr (.inr (some a1))), (2, .inl v2_8), (3, .inl v3_8)], [.inr (.inr (some 11))], sh, gc_h sh I6 J7 A)
              refine gv_run 1 true hD (pc' := 65) (lv' := [(4, .inl z119), (0, .inr (.inr (some 39))), (1, .inr (.inr (some a1))), (2, .inl v2_8), (3, .inl v3_8)]) (st' := [.inl z119, .inr (.inr (some 11))]) (h' := gc_h sh I6 J7 A) (C := (True ∧ True)) rfl ⟨trivial, trivial⟩ ?_
              have f122 := (show 0 ≤ I6 11 (Int.toNat z119) ∧ I6 11 (Int.toNat z119) ≤ 31 from gc_in hI6 R_11 rfl rfl)
              refine gv_iald hD rfl S_11 rfl ⟨by decide, B_11⟩ ⟨by omega, by omega⟩ (gc_iI S_11 rfl) ?_
              show gv_X _ _ (66, [(4, .inl z119), (0, .inr (.inr (some 39))), (1, .inr (.inr (some a1))), (2, .inl v2_8), (3, .inl v3_8)], [.inl (I6 11 (Int.toNat z119))], sh, gc_h sh I6 J7 A)
              have t123 := e0_8 (Int.toNat (v3_8 - 1)) (by omega)
              have t124 := (show 0 ≤ I6 12 (Int.toNat (I6 46 (Int.toNat (v3_8 - 1)))) ∧ I6 12 (Int.toNat (I6 46 (Int.toNat (v3_8 - 1)))) ≤ 4 from gc_in hI6 R_12 rfl rfl)
              refine gv_run 4 true hD (pc' := 70) (lv' := [(4, .inl z119), (0, .inr (.inr (some 39))), (1, .inr (.inr (some a1))), (2, .inl v2_8), (3, .inl v3_8)]) (st' := [.inl (v3_8 - 1), .inr (.inr (some 39)), .inl (I6 11 (Int.toNat z119))]) (h' := gc_h sh I6 J7 A) (C := ((((True ∧ True) ∧ True) ∧ True) ∧ True)) rfl ⟨⟨⟨⟨trivial, trivial⟩, trivial⟩, trivial⟩, trivial⟩ ?_
              obtain ⟨r125, h125, E125, P125⟩ := d_X6_kindWanted_p (ws0 := ws0) (tb := tb) hws htb sh ro I6 J7 A hI6  (v3_8 - 1) hb   ⟨by omega, by omega⟩ (by omega) 
              obtain ⟨rfl, ⟨z125, rfl, q125⟩⟩ := P125
              have zG : z125 = gt_cg I (I6 46 (Int.toNat (v3_8 - 1))) (I6 47 (Int.toNat (v3_8 - 1))) := q125.2.2.trans (yq 13 _ (by omega))
              have zK : gt_ck I z119 = I6 11 (Int.toNat z119) := (yq 11 _ (by omega)).symm
              refine gv_callV hD rfl (As := [.inl (v3_8 - 1)]) (st := [.inl (I6 11 (Int.toNat z119))]) rfl B_39 S_39 rfl (gc_lV6 hws rfl) (Nat.le_of_ble_eq_true rfl) (gz_Ev_mono (d := 1) (by decide) E125) ?_
              show gv_X _ _ (73, [(4, .inl z119), (0, .inr (.inr (some 39))), (1, .inr (.inr (some a1))), (2, .inl v2_8), (3, .inl v3_8)], [.inl z125, .inl (I6 11 (Int.toNat z119))], sh, gc_h sh I6 J7 A)
              refine gv_icmp_eq (t := 86) hD rfl rfl ⟨⟨by omega, by omega⟩, ⟨by omega, by omega⟩⟩ (fun c126 => ?_) (fun c126 => ?_)
              · show gv_X _ _ (86, [(4, .inl z119), (0, .inr (.inr (some 39))), (1, .inr (.inr (some a1))), (2, .inl v2_8), (3, .inl v3_8)], [], sh, gc_h sh I6 J7 A)
                refine gv_pick [1, 2, 3, 4, 0] rfl ?_
                exact L86 z119 (by omega) ⟨⟨zF, zT⟩, by rw [gt_st_s (I := I6) (d := v3_8) (by omega)]; show gt_ck I z119 - gt_cg I (I6 46 (Int.toNat (v3_8 - 1))) (I6 47 (Int.toNat (v3_8 - 1))) = 0; omega⟩
              · show gv_X _ _ (76, [(4, .inl z119), (0, .inr (.inr (some 39))), (1, .inr (.inr (some a1))), (2, .inl v2_8), (3, .inl v3_8)], [], sh, gc_h sh I6 J7 A)
                refine gv_pick [1] rfl ?_
                exact L76 (by omega) (aS.trans (gt_M_n (fun h9 => by have h8 := h9.2.2; rw [← zF, gt_st_s (I := I6) (d := v3_8) (by omega)] at h8; have h7 : gt_ck I z119 - gt_cg I (I6 46 (Int.toNat (v3_8 - 1))) (I6 47 (Int.toNat (v3_8 - 1))) = 0 := h8; omega)))
  refine gv_run 1 true hD (pc' := 1) (lv' := [(0, .inr (.inr (some 39))), (1, .inr (.inr (some a1)))]) (st' := [.inr (.inr (some 39))]) (h' := gc_h sh I J A) (C := (True ∧ True)) rfl ⟨trivial, trivial⟩ ?_
  refine gv_get hD rfl rfl S_39 ⟨by decide, B_39⟩ (gc_hA S_39 rfl A_39_1) ?_
  show gv_X _ _ (4, [(0, .inr (.inr (some 39))), (1, .inr (.inr (some a1)))], [.inr (.inr (some 23))], sh, gc_h sh I J A)
  obtain ⟨r127, h127, E127, P127⟩ := d_X9_rewind_p (ws0 := ws0) (tb := tb) hws htb sh ro I J A hI 23 β η (gc_b23 hb) y0 y1
  obtain ⟨I128, J129, rfl, hI128, g127, k127, ⟨rfl, V127_0, V127_1, V127_2, V127_3, V127_4, q127⟩⟩ := P127
  have FI128 := gc_frc (W := fun q j => (q = 39 ∧ j = 3) ∨ (q = 39 ∧ j = 4) ∨ (q = 23 ∧ j = 5) ∨ (q = 23 ∧ j = 6) ∨ (q = 23 ∧ j = 7) ∨ (q = 23 ∧ j = 8) ∨ q = a1 ∨ q = 46 ∨ q = 47) (V := fun q j => (q = 23 ∧ j = 5) ∨ (q = 23 ∧ j = 6) ∨ (q = 23 ∧ j = 7) ∨ (q = 23 ∧ j = 8)) FI (fun q j h => (h.elim (fun h => (Or.inr (Or.inr (Or.inl h)))) (fun h => (h.elim (fun h => (Or.inr (Or.inr (Or.inr (Or.inl h))))) (fun h => (h.elim (fun h => (Or.inr (Or.inr (Or.inr (Or.inr (Or.inl h)))))) (fun h => (Or.inr (Or.inr (Or.inr (Or.inr (Or.inr (Or.inl h))))))))))))) g127
  have FJ129 := gc_frc (W := fun q j => (q = 23 ∧ j = 9)) (V := fun q j => (q = 23 ∧ j = 9)) FJ (fun q j h => h) k127
  have t130 := (g127 23 1).resolve_left (fun h => h.elim (fun h => absurd h.2 (by decide)) (fun h => h.elim (fun h => absurd h.2 (by decide)) (fun h => h.elim (fun h => absurd h.2 (by decide)) (fun h => absurd h.2 (by decide)))))
  have t131 := (g127 4 1).resolve_left (fun h => h.elim (fun h => absurd h.2 (by decide)) (fun h => h.elim (fun h => absurd h.2 (by decide)) (fun h => h.elim (fun h => absurd h.2 (by decide)) (fun h => absurd h.2 (by decide)))))
  have f132 := (show 0 ≤ I128 23 5 ∧ I128 23 5 ≤ 1000 from gc_in hI128 R_23 rfl rfl)
  have f133 := (show 0 ≤ I128 23 6 ∧ I128 23 6 ≤ 1001 from gc_in hI128 R_23 rfl rfl)
  have f134 := (show 0 ≤ I128 23 7 ∧ I128 23 7 ≤ 125 from gc_in hI128 R_23 rfl rfl)
  have KLT_I128 : gc_LT I128 := q127.2.1
  have KTK_I128 : gc_TK I128 := And.intro V127_0 (And.intro V127_1 (And.intro V127_2 (And.intro V127_3 V127_4)))
  have t135 := gc_TK_mo KTK_I128
  clear V127_0 V127_1 V127_2 V127_3 V127_4
  refine gv_callV hD rfl (As := []) (st := []) rfl B_23 S_23 rfl (gc_lV6 hws rfl) (Nat.le_of_ble_eq_true rfl) (gz_Ev_mono (d := 3) (by decide) E127) ?_
  show gv_X _ _ (7, [(0, .inr (.inr (some 39))), (1, .inr (.inr (some a1)))], [], sh, gc_h sh I128 J129 A)
  refine gv_run 4 true hD (pc' := 11) (lv' := [(3, .inl 0), (2, .inl 0), (0, .inr (.inr (some 39))), (1, .inr (.inr (some a1)))]) (st' := []) (h' := gc_h sh I128 J129 A) (C := ((((True ∧ True) ∧ True) ∧ True) ∧ True)) rfl ⟨⟨⟨⟨trivial, trivial⟩, trivial⟩, trivial⟩, trivial⟩ ?_
  refine gv_pick [2, 3, 1, 0] rfl ?_
  exact L11 _ I128 J129 0 0 (Nat.lt_succ_self _) hI128 FI128 FJ129 KLT_I128 KTK_I128 (by omega) (fun k hk => by omega) (show (1 : Int) = 1 + 0 from rfl) (fun k hk => by omega) (fun k a b => by omega) ⟨0, q127.2.2, by rw [show Int.toNat ((60 : Int) - 0) = 60 from rfl]; rfl⟩
set_option maxHeartbeats 4000000 in
set_option maxRecDepth 100000 in
theorem d_X12_tree_p {ws0 : List Cond} {tb : String → gz_T} (hws : gc_Ws ws0) (htb : gc_tbs tb) (sh : gz_Sh) (ro : Nat → Nat) (I : gr_I) (J : gr_J) (A : gc_A) (hI : gc_Inv ro I) (u : Nat) (a1 : Int) (β : Int → Int) (η : Int) (hb : gc_Base sh ro A) (S_u : sh[u]? = some (true, 1, 60)) (R_u : ro u = 37) (B_u : u < 1000000) (ha1 : 0 ≤ a1 ∧ a1 ≤ 7) (x0 : A 114 (Int.toNat a1) = some u) (x1 : u = 115 + Int.toNat a1) (y0 : gs_TX β η (I 24)) (y1 : η = I 23 1) : ∃ r h', gz_Ev ws0 tb 5 (yX12_tree, cX12_tree, 3, (some .int)) [.inr (.inr (some 0)), .inl a1] sh (gc_h sh I J A) r sh h' 0 0 ∧ (∃ (I' : gr_I) (J' : gr_J), h' = gc_h sh I' J' A ∧ gc_Inv ro I' ∧ (∀ q j : Nat, ((q = 39 ∧ j = 3) ∨ (q = 39 ∧ j = 4) ∨ (q = 23 ∧ j = 5) ∨ (q = 23 ∧ j = 6) ∨ (q = 23 ∧ j = 7) ∨ (q = 23 ∧ j = 8) ∨ q = 123 ∨ q = 46 ∨ q = 47 ∨ (q = 23 ∧ j = 1) ∨ q = u ∨ (q = 124 ∧ j = (Int.toNat a1))) ∨ I' q j = I q j) ∧ (∀ q j : Nat, ((q = 23 ∧ j = 9)) ∨ J' q j = J q j) ∧ (∃ z : Int, r = some (.inl z) ∧ (-1001) ≤ z ∧ z ≤ 60 ∧ (I' 23 1 = 0) ∧ (z ≤ 0 ∨ (gc_wtr I' u z ∧ gc_rg u I' z 0 (I 4 1 - 1) ∧ I' 124 (Int.toNat a1) = z)) ∧ (0 < z ∨ ((∀ k, I' u k = I u k) ∧ I' 124 (Int.toNat a1) = I 124 (Int.toNat a1))) ∧ (z = gt_M β η (gt_cf β η I J) (gt_ca I) (gt_ck I) (gt_cg I) 60 0 []))) := by
  have FI : ∀ q j : Nat, ((q = 39 ∧ j = 3) ∨ (q = 39 ∧ j = 4) ∨ (q = 23 ∧ j = 5) ∨ (q = 23 ∧ j = 6) ∨ (q = 23 ∧ j = 7) ∨ (q = 23 ∧ j = 8) ∨ q = 123 ∨ q = 46 ∨ q = 47 ∨ (q = 23 ∧ j = 1) ∨ q = u ∨ (q = 124 ∧ j = (Int.toNat a1))) ∨ I q j = I q j := fun _ _ => Or.inr rfl
  have FJ : ∀ q j : Nat, ((q = 23 ∧ j = 9)) ∨ J q j = J q j := fun _ _ => Or.inr rfl
  have A_0_1 : A 0 1 = some 23 := gc_bA hb rfl
  have A_0_11 : A 0 11 = some 114 := gc_bA hb rfl
  have A_0_12 : A 0 12 = some 124 := gc_bA hb rfl
  have A_0_5 : A 0 5 = some 39 := gc_bA hb rfl
  have B_0 : 0 < 1000000 := by decide
  have B_114 : 114 < 1000000 := by decide
  have B_123 : 123 < 1000000 := by decide
  have B_124 : 124 < 1000000 := by decide
  have B_23 : 23 < 1000000 := by decide
  have B_39 : 39 < 1000000 := by decide
  have R_123 : ro 123 = 37 := gc_bR hb (by decide) rfl
  have R_124 : ro 124 = 68 := gc_bR hb (by decide) rfl
  have R_23 : ro 23 = 3 := gc_bR hb (by decide) rfl
  have R_4 : ro 4 = 11 := gc_bR hb (by decide) rfl
  have S_0 : sh[0]? = some (false, 12, 17) := gc_bS hb rfl
  have S_114 : sh[114]? = some (true, 7, 9) := gc_bS hb rfl
  have S_123 : sh[123]? = some (true, 1, 60) := gc_bS hb rfl
  have S_124 : sh[124]? = some (true, 1, 9) := gc_bS hb rfl
  have S_23 : sh[23]? = some (false, 9, 10) := gc_bS hb rfl
  have S_39 : sh[39]? = some (false, 6, 19) := gc_bS hb rfl
  have hD : gv_D (gc_E12 ws0 tb 4 (yX12_tree, cX12_tree, 3, (some .int)) kX12_tree) := gq_ok oX12_tree
  refine gc_ev12 (d := 4) (l := kX12_tree) (Po := fun r h' => (∃ (I' : gr_I) (J' : gr_J), h' = gc_h sh I' J' A ∧ gc_Inv ro I' ∧ (∀ q j : Nat, ((q = 39 ∧ j = 3) ∨ (q = 39 ∧ j = 4) ∨ (q = 23 ∧ j = 5) ∨ (q = 23 ∧ j = 6) ∨ (q = 23 ∧ j = 7) ∨ (q = 23 ∧ j = 8) ∨ q = 123 ∨ q = 46 ∨ q = 47 ∨ (q = 23 ∧ j = 1) ∨ q = u ∨ (q = 124 ∧ j = (Int.toNat a1))) ∨ I' q j = I q j) ∧ (∀ q j : Nat, ((q = 23 ∧ j = 9)) ∨ J' q j = J q j) ∧ (∃ z : Int, r = some (.inl z) ∧ (-1001) ≤ z ∧ z ≤ 60 ∧ (I' 23 1 = 0) ∧ (z ≤ 0 ∨ (gc_wtr I' u z ∧ gc_rg u I' z 0 (I 4 1 - 1) ∧ I' 124 (Int.toNat a1) = z)) ∧ (0 < z ∨ ((∀ k, I' u k = I u k) ∧ I' 124 (Int.toNat a1) = I 124 (Int.toNat a1))) ∧ (z = gt_M β η (gt_cf β η I J) (gt_ca I) (gt_ck I) (gt_cg I) 60 0 [])))) htb rfl (Nat.le_of_ble_eq_true rfl) ?_
  have N_23__u : ¬ (23 = u) := by omega
  have N_4__u : ¬ (4 = u) := by omega
  have f1 := (show 0 ≤ I 23 1 ∧ I 23 1 ≤ 1000 from gc_in hI R_23 rfl rfl)
  have f2 := (show 0 ≤ I 4 1 ∧ I 4 1 ≤ 96 from gc_in hI R_4 rfl rfl)
  refine gv_run 1 true hD (pc' := 1) (lv' := [(0, .inr (.inr (some 0))), (1, .inl a1)]) (st' := [.inl a1]) (h' := gc_h sh I J A) (C := (True ∧ True)) rfl ⟨trivial, trivial⟩ ?_
  obtain ⟨r3, h3, E3, P3⟩ := d_X12_checkPlace (ws0 := ws0) (tb := tb) hws htb sh ro I J A hI  a1 hb   ⟨by omega, by omega⟩  
  obtain ⟨rfl, rfl⟩ := P3
  refine gv_callS hD rfl (As := [.inl a1]) (st := []) rfl (gc_lS12 hws rfl) (Nat.le_of_ble_eq_true rfl) (gz_Ev_mono (d := 1) (by decide) E3) ?_
  show gv_X _ _ (4, [(0, .inr (.inr (some 0))), (1, .inl a1)], [], sh, gc_h sh I J A)
  refine gv_run 1 true hD (pc' := 5) (lv' := [(0, .inr (.inr (some 0))), (1, .inl a1)]) (st' := [.inr (.inr (some 0))]) (h' := gc_h sh I J A) (C := (True ∧ True)) rfl ⟨trivial, trivial⟩ ?_
  refine gv_get hD rfl rfl S_0 ⟨by decide, B_0⟩ (gc_hA S_0 rfl A_0_5) ?_
  show gv_X _ _ (8, [(0, .inr (.inr (some 0))), (1, .inl a1)], [.inr (.inr (some 39))], sh, gc_h sh I J A)
  refine gv_run 1 true hD (pc' := 9) (lv' := [(0, .inr (.inr (some 0))), (1, .inl a1)]) (st' := [.inr (.inr (some 0)), .inr (.inr (some 39))]) (h' := gc_h sh I J A) (C := (True ∧ True)) rfl ⟨trivial, trivial⟩ ?_
  refine gv_get hD rfl rfl S_0 ⟨by decide, B_0⟩ (gc_hA S_0 rfl A_0_11) ?_
  show gv_X _ _ (12, [(0, .inr (.inr (some 0))), (1, .inl a1)], [.inr (.inr (some 114)), .inr (.inr (some 39))], sh, gc_h sh I J A)
  refine gv_run 1 true hD (pc' := 14) (lv' := [(0, .inr (.inr (some 0))), (1, .inl a1)]) (st' := [.inl 8, .inr (.inr (some 114)), .inr (.inr (some 39))]) (h' := gc_h sh I J A) (C := (True ∧ True)) rfl ⟨trivial, trivial⟩ ?_
  refine gv_aald hD rfl S_114 ⟨by decide, by decide⟩ ⟨by decide, B_114⟩ ⟨by omega, by omega⟩ ((gc_aA S_114 rfl).trans (show A 114 8 = some 123 from gc_bA hb rfl)) ?_
  show gv_X _ _ (15, [(0, .inr (.inr (some 0))), (1, .inl a1)], [.inr (.inr (some 123)), .inr (.inr (some 39))], sh, gc_h sh I J A)
  obtain ⟨r5, h5, E5, P5⟩ := d_X6_readTree_p (ws0 := ws0) (tb := tb) hws htb sh ro I J A hI  60 123 β η hb S_123 R_123 B_123 (by decide)   (by omega) (by omega) y0 y1
  obtain ⟨I6, J7, rfl, hI6, g5, k5, ⟨z5, rfl, q5⟩⟩ := P5
  have FI6 := gc_frc (W := fun q j => (q = 39 ∧ j = 3) ∨ (q = 39 ∧ j = 4) ∨ (q = 23 ∧ j = 5) ∨ (q = 23 ∧ j = 6) ∨ (q = 23 ∧ j = 7) ∨ (q = 23 ∧ j = 8) ∨ q = 123 ∨ q = 46 ∨ q = 47 ∨ (q = 23 ∧ j = 1) ∨ q = u ∨ (q = 124 ∧ j = (Int.toNat a1))) (V := fun q j => (q = 39 ∧ j = 3) ∨ (q = 39 ∧ j = 4) ∨ (q = 23 ∧ j = 5) ∨ (q = 23 ∧ j = 6) ∨ (q = 23 ∧ j = 7) ∨ (q = 23 ∧ j = 8) ∨ q = 123 ∨ q = 46 ∨ q = 47) FI (fun q j h => (h.elim (fun h => (Or.inl h)) (fun h => (h.elim (fun h => (Or.inr (Or.inl h))) (fun h => (h.elim (fun h => (Or.inr (Or.inr (Or.inl h)))) (fun h => (h.elim (fun h => (Or.inr (Or.inr (Or.inr (Or.inl h))))) (fun h => (h.elim (fun h => (Or.inr (Or.inr (Or.inr (Or.inr (Or.inl h)))))) (fun h => (h.elim (fun h => (Or.inr (Or.inr (Or.inr (Or.inr (Or.inr (Or.inl h))))))) (fun h => (h.elim (fun h => (Or.inr (Or.inr (Or.inr (Or.inr (Or.inr (Or.inr (Or.inl h)))))))) (fun h => (h.elim (fun h => (Or.inr (Or.inr (Or.inr (Or.inr (Or.inr (Or.inr (Or.inr (Or.inl h))))))))) (fun h => (Or.inr (Or.inr (Or.inr (Or.inr (Or.inr (Or.inr (Or.inr (Or.inr (Or.inl h)))))))))))))))))))))))))) g5
  have FJ7 := gc_frc (W := fun q j => (q = 23 ∧ j = 9)) (V := fun q j => (q = 23 ∧ j = 9)) FJ (fun q j h => h) k5
  have t8 := (g5 23 1).resolve_left (fun h => h.elim (fun h => absurd h.2 (by decide)) (fun h => h.elim (fun h => absurd h.2 (by decide)) (fun h => h.elim (fun h => absurd h.2 (by decide)) (fun h => h.elim (fun h => absurd h.2 (by decide)) (fun h => h.elim (fun h => absurd h.2 (by decide)) (fun h => h.elim (fun h => absurd h.2 (by decide)) (fun h => h.elim (fun h => absurd h (by decide)) (fun h => h.elim (fun h => absurd h (by decide)) (fun h => absurd h (by decide))))))))))
  have t9 := (g5 4 1).resolve_left (fun h => h.elim (fun h => absurd h.2 (by decide)) (fun h => h.elim (fun h => absurd h.2 (by decide)) (fun h => h.elim (fun h => absurd h.2 (by decide)) (fun h => h.elim (fun h => absurd h.2 (by decide)) (fun h => h.elim (fun h => absurd h.2 (by decide)) (fun h => h.elim (fun h => absurd h.2 (by decide)) (fun h => h.elim (fun h => absurd h (by decide)) (fun h => h.elim (fun h => absurd h (by decide)) (fun h => absurd h (by decide))))))))))
  refine gv_callV hD rfl (As := [.inr (.inr (some 123))]) (st := []) rfl B_39 S_39 rfl (gc_lV12 hws rfl) (Nat.le_of_ble_eq_true rfl) (gz_Ev_mono (d := 4) (by decide) E5) ?_
  show gv_X _ _ (18, [(0, .inr (.inr (some 0))), (1, .inl a1)], [.inl z5], sh, gc_h sh I6 J7 A)
  refine gv_run 2 true hD (pc' := 20) (lv' := [(2, .inl z5), (0, .inr (.inr (some 0))), (1, .inl a1)]) (st' := [.inr (.inr (some 0))]) (h' := gc_h sh I6 J7 A) (C := ((True ∧ True) ∧ True)) rfl ⟨⟨trivial, trivial⟩, trivial⟩ ?_
  refine gv_get hD rfl rfl S_0 ⟨by decide, B_0⟩ (gc_hA S_0 rfl A_0_1) ?_
  show gv_X _ _ (23, [(2, .inl z5), (0, .inr (.inr (some 0))), (1, .inl a1)], [.inr (.inr (some 23))], sh, gc_h sh I6 J7 A)
  refine gv_run 1 true hD (pc' := 24) (lv' := [(2, .inl z5), (0, .inr (.inr (some 0))), (1, .inl a1)]) (st' := [.inl 0, .inr (.inr (some 23))]) (h' := gc_h sh I6 J7 A) (C := (True ∧ True)) rfl ⟨trivial, trivial⟩ ?_
  refine gv_put hD rfl rfl S_23 ⟨by decide, B_23⟩ rfl trivial ?_
  refine gc_st (k := 1) hI6 S_23 rfl R_23 (lo := 0) (hi := 1000) rfl rfl (by omega) (by omega) (fun I10 hI10 q11 p11 => ?_)
  have FI10 := gc_frs (W := fun q j => (q = 39 ∧ j = 3) ∨ (q = 39 ∧ j = 4) ∨ (q = 23 ∧ j = 5) ∨ (q = 23 ∧ j = 6) ∨ (q = 23 ∧ j = 7) ∨ (q = 23 ∧ j = 8) ∨ q = 123 ∨ q = 46 ∨ q = 47 ∨ (q = 23 ∧ j = 1) ∨ q = u ∨ (q = 124 ∧ j = (Int.toNat a1))) FI6 (Or.inr (Or.inr (Or.inr (Or.inr (Or.inr (Or.inr (Or.inr (Or.inr (Or.inr (Or.inl ⟨rfl, rfl⟩)))))))))) p11
  have t12 := p11 4 1 (fun h => absurd h.1 (by decide))
  have f13 := (show 0 ≤ I10 23 1 ∧ I10 23 1 ≤ 1000 from gc_in hI10 R_23 rfl rfl)
  show gv_X _ _ (27, [(2, .inl z5), (0, .inr (.inr (some 0))), (1, .inl a1)], [], sh, gc_h sh I10 J7 A)
  refine gv_run 1 true hD (pc' := 28) (lv' := [(2, .inl z5), (0, .inr (.inr (some 0))), (1, .inl a1)]) (st' := [.inl z5]) (h' := gc_h sh I10 J7 A) (C := (True ∧ True)) rfl ⟨trivial, trivial⟩ ?_
  refine gv_if_le (t := 57) hD rfl rfl ⟨by omega, by omega⟩ (fun c14 => ?_) (fun c14 => ?_)
  · show gv_X _ _ (57, [(2, .inl z5), (0, .inr (.inr (some 0))), (1, .inl a1)], [], sh, gc_h sh I10 J7 A)
    refine gv_run 1 true hD (pc' := 58) (lv' := [(2, .inl z5), (0, .inr (.inr (some 0))), (1, .inl a1)]) (st' := [.inl z5]) (h' := gc_h sh I10 J7 A) (C := (True ∧ True)) rfl ⟨trivial, trivial⟩ ?_
    exact gv_iret hD rfl ⟨I10, J7, rfl, hI10, FI10, FJ7, ⟨_, rfl, by omega, by omega, by omega, (Or.inl (by omega)), (Or.inr ⟨fun k => ((p11 u k (fun h => absurd h.1 (by omega))).trans ((g5 u k).resolve_left (by omega))), ((p11 124 (Int.toNat a1) (fun h => absurd h.1 (by omega))).trans ((g5 124 (Int.toNat a1)).resolve_left (by omega)))⟩), q5.2.2.2.2.2.2⟩⟩
  · show gv_X _ _ (31, [(2, .inl z5), (0, .inr (.inr (some 0))), (1, .inl a1)], [], sh, gc_h sh I10 J7 A)
    refine gv_run 1 true hD (pc' := 32) (lv' := [(2, .inl z5), (0, .inr (.inr (some 0))), (1, .inl a1)]) (st' := [.inr (.inr (some 0))]) (h' := gc_h sh I10 J7 A) (C := (True ∧ True)) rfl ⟨trivial, trivial⟩ ?_
    refine gv_get hD rfl rfl S_0 ⟨by decide, B_0⟩ (gc_hA S_0 rfl A_0_11) ?_
    show gv_X _ _ (35, [(2, .inl z5), (0, .inr (.inr (some 0))), (1, .inl a1)], [.inr (.inr (some 114))], sh, gc_h sh I10 J7 A)
    refine gv_run 1 true hD (pc' := 37) (lv' := [(2, .inl z5), (0, .inr (.inr (some 0))), (1, .inl a1)]) (st' := [.inl 8, .inr (.inr (some 114))]) (h' := gc_h sh I10 J7 A) (C := (True ∧ True)) rfl ⟨trivial, trivial⟩ ?_
    refine gv_aald hD rfl S_114 ⟨by decide, by decide⟩ ⟨by decide, B_114⟩ ⟨by omega, by omega⟩ ((gc_aA S_114 rfl).trans (show A 114 8 = some 123 from gc_bA hb rfl)) ?_
    show gv_X _ _ (38, [(2, .inl z5), (0, .inr (.inr (some 0))), (1, .inl a1)], [.inr (.inr (some 123))], sh, gc_h sh I10 J7 A)
    refine gv_run 2 true hD (pc' := 40) (lv' := [(2, .inl z5), (0, .inr (.inr (some 0))), (1, .inl a1)]) (st' := [.inr (.inr (some 0)), .inl 0, .inr (.inr (some 123))]) (h' := gc_h sh I10 J7 A) (C := ((True ∧ True) ∧ True)) rfl ⟨⟨trivial, trivial⟩, trivial⟩ ?_
    refine gv_get hD rfl rfl S_0 ⟨by decide, B_0⟩ (gc_hA S_0 rfl A_0_11) ?_
    show gv_X _ _ (43, [(2, .inl z5), (0, .inr (.inr (some 0))), (1, .inl a1)], [.inr (.inr (some 114)), .inl 0, .inr (.inr (some 123))], sh, gc_h sh I10 J7 A)
    refine gv_run 1 true hD (pc' := 44) (lv' := [(2, .inl z5), (0, .inr (.inr (some 0))), (1, .inl a1)]) (st' := [.inl a1, .inr (.inr (some 114)), .inl 0, .inr (.inr (some 123))]) (h' := gc_h sh I10 J7 A) (C := (True ∧ True)) rfl ⟨trivial, trivial⟩ ?_
    refine gv_aald hD rfl S_114 ⟨by decide, by decide⟩ ⟨by decide, B_114⟩ ⟨by omega, by omega⟩ ((gc_aA S_114 rfl).trans x0) ?_
    show gv_X _ _ (45, [(2, .inl z5), (0, .inr (.inr (some 0))), (1, .inl a1)], [.inr (.inr (some u)), .inl 0, .inr (.inr (some 123))], sh, gc_h sh I10 J7 A)
    refine gv_run 2 true hD (pc' := 47) (lv' := [(2, .inl z5), (0, .inr (.inr (some 0))), (1, .inl a1)]) (st' := [.inl z5, .inl 0, .inr (.inr (some u)), .inl 0, .inr (.inr (some 123))]) (h' := gc_h sh I10 J7 A) (C := ((True ∧ True) ∧ True)) rfl ⟨⟨trivial, trivial⟩, trivial⟩ ?_
    refine gv_copy hD rfl (gc_lC12_256 hws) (Nat.le_of_ble_eq_true rfl) ⟨B_123, B_u⟩ S_123 S_u (by decide) ⟨by decide, by decide⟩ ⟨by omega, by omega, by omega⟩ (by omega) (by omega) (fun h => absurd h (by decide)) ?_
    refine gc_cp hI10 S_123 S_u (by decide) (fun j hj => by have h9 := (show 0 ≤ I10 123 (Int.toNat 0 + j) ∧ I10 123 (Int.toNat 0 + j) ≤ 95 from gc_in hI10 R_123 rfl rfl); rw [R_u]; exact ⟨by show 0 ≤ _; omega, by show _ ≤ 95; omega⟩) (fun I18 hI18 p17 q17 => ?_)
    have FI18 := gc_frp (W := fun q j => (q = 39 ∧ j = 3) ∨ (q = 39 ∧ j = 4) ∨ (q = 23 ∧ j = 5) ∨ (q = 23 ∧ j = 6) ∨ (q = 23 ∧ j = 7) ∨ (q = 23 ∧ j = 8) ∨ q = 123 ∨ q = 46 ∨ q = 47 ∨ (q = 23 ∧ j = 1) ∨ q = u ∨ (q = 124 ∧ j = (Int.toNat a1))) (V := fun q j => q = u ∧ Int.toNat 0 ≤ j ∧ j < Int.toNat 0 + Int.toNat z5) FI10 (fun q j h => (Or.inr (Or.inr (Or.inr (Or.inr (Or.inr (Or.inr (Or.inr (Or.inr (Or.inr (Or.inr (Or.inl h.1)))))))))))) p17
    have t20 := p17 23 1 (fun h => absurd h.1 N_23__u)
    have t21 := p17 4 1 (fun h => absurd h.1 N_4__u)
    have f22 := (show 0 ≤ I18 23 1 ∧ I18 23 1 ≤ 1000 from gc_in hI18 R_23 rfl rfl)
    have f23 := (show 0 ≤ I18 4 1 ∧ I18 4 1 ≤ 96 from gc_in hI18 R_4 rfl rfl)
    show gv_X _ _ (50, [(2, .inl z5), (0, .inr (.inr (some 0))), (1, .inl a1)], [], sh, gc_h sh I18 J7 A)
    refine gv_run 1 true hD (pc' := 51) (lv' := [(2, .inl z5), (0, .inr (.inr (some 0))), (1, .inl a1)]) (st' := [.inr (.inr (some 0))]) (h' := gc_h sh I18 J7 A) (C := (True ∧ True)) rfl ⟨trivial, trivial⟩ ?_
    refine gv_get hD rfl rfl S_0 ⟨by decide, B_0⟩ (gc_hA S_0 rfl A_0_12) ?_
    show gv_X _ _ (54, [(2, .inl z5), (0, .inr (.inr (some 0))), (1, .inl a1)], [.inr (.inr (some 124))], sh, gc_h sh I18 J7 A)
    refine gv_run 2 true hD (pc' := 56) (lv' := [(2, .inl z5), (0, .inr (.inr (some 0))), (1, .inl a1)]) (st' := [.inl z5, .inl a1, .inr (.inr (some 124))]) (h' := gc_h sh I18 J7 A) (C := ((True ∧ True) ∧ True)) rfl ⟨⟨trivial, trivial⟩, trivial⟩ ?_
    refine gv_iast hD rfl S_124 ⟨by decide, B_124⟩ ⟨by omega, by omega⟩ ?_
    refine gc_st hI18 S_124 rfl R_124 (lo := 0) (hi := 60) rfl rfl (by omega) (by omega) (fun I24 hI24 q25 p25 => ?_)
    have FI24 := gc_frs (W := fun q j => (q = 39 ∧ j = 3) ∨ (q = 39 ∧ j = 4) ∨ (q = 23 ∧ j = 5) ∨ (q = 23 ∧ j = 6) ∨ (q = 23 ∧ j = 7) ∨ (q = 23 ∧ j = 8) ∨ q = 123 ∨ q = 46 ∨ q = 47 ∨ (q = 23 ∧ j = 1) ∨ q = u ∨ (q = 124 ∧ j = (Int.toNat a1))) FI18 (Or.inr (Or.inr (Or.inr (Or.inr (Or.inr (Or.inr (Or.inr (Or.inr (Or.inr (Or.inr (Or.inr ⟨rfl, rfl⟩))))))))))) p25
    have t26 := p25 23 1 (fun h => absurd h.1 (by decide))
    have t27 := p25 4 1 (fun h => absurd h.1 (by decide))
    show gv_X _ _ (57, [(2, .inl z5), (0, .inr (.inr (some 0))), (1, .inl a1)], [], sh, gc_h sh I24 J7 A)
    refine gv_run 1 true hD (pc' := 58) (lv' := [(2, .inl z5), (0, .inr (.inr (some 0))), (1, .inl a1)]) (st' := [.inl z5]) (h' := gc_h sh I24 J7 A) (C := (True ∧ True)) rfl ⟨trivial, trivial⟩ ?_
    exact gv_iret hD rfl ⟨I24, J7, rfl, hI24, FI24, FJ7, ⟨_, rfl, by omega, by omega, by omega, (Or.inr ⟨gh_wtr_cp (q5.2.2.2.1.resolve_left (by omega)) (by omega) (fun k hk => ((p25 u k (fun h => absurd h.1 (by omega)))).trans (by have h9 := q17 k (by omega); rw [show Int.toNat 0 + k = k from by omega] at h9; exact h9.trans ((p11 123 k (fun h => absurd h.1 (by omega)))))) (fun k => (((p25 12 k (fun h => absurd h.1 (by omega))).trans (p17 12 k (fun h => absurd h.1 (by omega)))).trans (p11 12 k (fun h => absurd h.1 (by omega))))), gh_rg_cp (q5.2.2.2.2.2.1.resolve_left (by omega)) (fun k hk => ((p25 u k (fun h => absurd h.1 (by omega)))).trans (by have h9 := q17 k (by omega); rw [show Int.toNat 0 + k = k from by omega] at h9; exact h9.trans ((p11 123 k (fun h => absurd h.1 (by omega)))))), by omega⟩), (Or.inl (by omega)), q5.2.2.2.2.2.2⟩⟩
set_option maxHeartbeats 4000000 in
theorem hh_tree_z {ws0 : List Cond} {tb : String → gz_T} (hws : gc_Ws ws0) (htb : gc_tbs tb) {sh : gz_Sh} {ro : Nat → Nat} {I : gr_I} {J : gr_J} {A : gc_A} (hs : gh_HS sh ro I J A) (hc : gh_HC sh ro A I) (a1 : Int) (ra1 : 0 ≤ a1 ∧ a1 ≤ 7) (β : Int → Int) (η : Int) (y0 : gs_TX β η (I 24)) (y1 : η = I 23 1) : ∃ (z : Int) (I' : gr_I) (J' : gr_J), gz_Ev ws0 tb 100 (yX12_tree, cX12_tree, 3, (some .int)) [.inr (.inr (some 0)), .inl a1] sh (gc_h sh I J A) (some (.inl z)) sh (gc_h sh I' J' A) 0 0 ∧ z = gt_M β η (gt_cf β η I J) (gt_ca I) (gt_ck I) (gt_cg I) 60 0 [] ∧ gh_K sh ro A I J I' J' (0) := by
  have hb := hs.1
  have hI := hs.2.1
  have hok := hs.2.2.1
  have hT := hs.2.2.2.1
  have hU := hs.2.2.2.2.1
  have i8 : 0 ≤ I 8 1 ∧ I 8 1 ≤ 8 := gc_in hI (gc_bR hb (by decide) rfl) rfl rfl
  have h144 := gc_Base_len hb
  obtain ⟨c1, c2, c3, c4, c5, c6, c7, c8⟩ := id hc
  obtain ⟨u, A_u, S_u, R_u, B_u, D_u⟩ := gh_plc hb (Int.toNat a1) (by omega)
  obtain ⟨r, h', E, I', J', rfl, hI', g, k, z, rfl, p0, p1, p2, p3, p4, p5⟩ := d_X12_tree_p hws htb sh ro I J A hI u a1 β η hb S_u R_u B_u ⟨by omega, by omega⟩ A_u D_u y0 y1
  have ok' : gc_OK sh I' J' A := gh_OK_g hok (fun q j => (g q j).elim (fun h => by
      rcases h with ⟨rfl, rfl⟩ | ⟨rfl, rfl⟩ | ⟨rfl, rfl⟩ | ⟨rfl, rfl⟩ | ⟨rfl, rfl⟩ | ⟨rfl, rfl⟩ | rfl | rfl | rfl | ⟨rfl, rfl⟩ | rfl | ⟨rfl, rfl⟩
      · exact Or.inl (gh_ok0 (gc_bS hb (p := 39) rfl) rfl)
      · exact Or.inl (gh_ok0 (gc_bS hb (p := 39) rfl) rfl)
      · exact Or.inl (gh_ok0 (gc_bS hb (p := 23) rfl) rfl)
      · exact Or.inl (gh_ok0 (gc_bS hb (p := 23) rfl) rfl)
      · exact Or.inl (gh_ok0 (gc_bS hb (p := 23) rfl) rfl)
      · exact Or.inl (gh_ok0 (gc_bS hb (p := 23) rfl) rfl)
      · exact Or.inl (gh_ok0 (gc_bS hb (p := 123) rfl) rfl)
      · exact Or.inl (gh_ok0 (gc_bS hb (p := 46) rfl) rfl)
      · exact Or.inl (gh_ok0 (gc_bS hb (p := 47) rfl) rfl)
      · exact Or.inl (gh_ok0 (gc_bS hb (p := 23) rfl) rfl)
      · exact Or.inl (gh_ok0 S_u rfl)
      · exact Or.inl (gh_ok0 (gc_bS hb (p := 124) rfl) rfl)
      ) Or.inr) (fun q j => (k q j).imp (fun h => by omega) id)
  have hk := gh_HS_n hs hI' ok' (fun q j => (g q j).imp (fun h => by omega) id) (fun q j => (k q j).imp (fun h => by omega) id)
  refine ⟨z, I', J', gz_Ev_mono (by decide) E, p5, ⟨hk.1, ⟨(gc_FN_fr c1 (fun k => ((g 49 k).resolve_left (by omega))) (fun k => ((g 50 k).resolve_left (by omega)))), (gc_FZ_fr c2 ((g 2 1).resolve_left (by omega)) (fun k => ((g 49 k).resolve_left (by omega))) (fun k => ((g 50 k).resolve_left (by omega)))), (by have h1 := ((g 86 2).resolve_left (by omega)); have h2 := ((g 86 4).resolve_left (by omega)); omega), (by have h1 := ((g 100 2).resolve_left (by omega)); have h2 := ((g 100 1).resolve_left (by omega)); have h3 := hk.2.1 8 1 (by decide) (by decide); omega), (gh_SN_fr c5 ((g 100 9).resolve_left (by omega))), (gh_FBT_fr c6 hk.2 (fun i t d j hi ht h1 h2 => (g (t + d) j).resolve_left (by have := (hT.1 i t hi ht).2.1; omega))), (gh_TRE_1 (p := Int.toNat a1) c7 hk.2 (fun k9 h1 h2 => (g 124 k9).resolve_left (by omega)) (fun k9 j h1 h2 => (g (115 + k9) j).resolve_left (by omega)) (by
      have h41 := hk.2.1 4 1 (by decide) (by decide)
      rw [h41, ← D_u]
      by_cases h9 : 0 < z
      · obtain ⟨w1, w2, w3⟩ := p3.resolve_left (by omega)
        rw [w3]
        exact Or.inr ⟨w1, w2⟩
      · obtain ⟨w1, w2⟩ := p4.resolve_left h9
        rw [w2]
        have h8 := c7 (Int.toNat a1) (by omega)
        rw [← D_u] at h8
        exact h8.imp id (fun h7 => ⟨gh_wtr_fu h7.1 h7.2 (fun j _ => hk.2.1 12 j (by decide) (by decide)) w1, fun k9 h1 h2 => by rw [w1]; exact h7.2 k9 h1 h2⟩))), (gh_RKO_fr hs c8 hk.2 (fun q j h1 h2 => ((g q j).resolve_left (by omega))))⟩, hk.2, by omega, (fun k9 h9 => ((g 24 k9).resolve_left (by omega))), ((g 100 9).resolve_left (by omega))⟩⟩
set_option maxHeartbeats 1000000 in
theorem gp_treex {ws0 : List Cond} {tb : String → gz_T} (hws : gc_Ws ws0) (htb : gc_tbs tb) (hwr : ∀ w ∈ gr_ws, w ∈ ws0) (htr : tb RX13 = gr_T) (ext : gz_Sh) {n a s : Nat} {sh : gz_Sh} {ro : Nat → Nat} {I : gr_I} {J : gr_J} {A : gc_A} {Ir : gr_I} {Jr : gr_J} (h : gp_P n a s sh ro I J A Ir Jr) (hn : n < 64) (a1 : Int) (ra1 : (-2147483648) ≤ a1 ∧ a1 ≤ 2147483647) : ∃ (z : Int) (Ir' : gr_I) (Jr' : gr_J), gz_Ev ws0 tb 1000 (yX13_tree, cX13_tree, 3, (some .int)) [.inr (.inr (some 0)), .inl a1] (gr_sh ++ ext) (gr_h Ir Jr) (some (.inl z)) (gr_sh ++ ext) (gr_h Ir' Jr') 0 0 ∧ gr_Inv Ir' ∧ ((-2147483648) ≤ z ∧ z ≤ 2147483647) ∧ ((∃ (I' : gr_I) (J' : gr_J), gz_Ev ws0 tb 100 (yX12_tree, cX12_tree, 3, (some .int)) [.inr (.inr (some 0)), .inl a1] sh (gc_h sh I J A) (some (.inl z)) sh (gc_h sh I' J' A) 0 0 ∧ Ir' 0 0 = 0 ∧ gp_P (n + 1) a s sh ro I' J' A Ir' Jr') ∨ (gk_T ws0 tb (yX12_tree, cX12_tree, 3, (some .int)) [.inr (.inr (some 0)), .inl a1] sh I J A px_IAE ∧ Ir' 0 0 = 1 ∧ gp_P (n + 1) (a + 1) (s + 6) sh ro I J A Ir' Jr')) := by
  have hs := h.1.1
  have hc := h.1.2.1
  have hR := h.2.2.1
  have e3 := h.2.2.2.1
  have h6 := h.2.2.2.2
  have i3 := gk_tp hs
  have i4 : 0 ≤ I 4 1 ∧ I 4 1 ≤ 96 := gc_in hs.2.1 (gc_bR hs.1 (by decide) rfl) rfl rfl
  obtain ⟨rr, h', E, Ir', Jr', rfl, q, t, z, rfl, l1, l2, P1, P2⟩ := q_tree_z hwr htr ext h.2.1.1 hn a1 ra1 (gp_tx (I 23 1) (I 24)) (I 23 1) (gp_TX2 (fun k hk => (h6 k hk).symm)) e3
  by_cases c : 0 ≤ a1 ∧ a1 ≤ 7
  · obtain ⟨u1, u2, u3⟩ := P1 c
    obtain ⟨z9, I', J', E9, ez, K9⟩ := hh_tree_z hws htb hs hc a1 c (gp_tx (I 23 1) (I 24)) (I 23 1) (gp_TX _ _) rfl
    have hz : z9 = z := ez.trans ((gt_alike hR.2.1 hR.2.2.2.2.2.1.1 hR.2.2.2.2.2.1.2.1 i4.1).trans u3.symm)
    rw [hz] at E9
    exact ⟨_, Ir', Jr', E, q.1.1, ⟨l1, l2⟩, Or.inl ⟨I', J', E9, u2, gp_kp h K9 (by omega) q t u1⟩⟩
  · obtain ⟨u1, u2⟩ := P2 c
    rcases gk_tree hws htb hs hc a1 ra1 with ⟨c9, _⟩ | ⟨c9, T9⟩
    · exact absurd c9 c
    · exact ⟨_, Ir', Jr', E, q.1.1, ⟨l1, l2⟩, Or.inr ⟨T9, u2, gp_th h q t u1⟩⟩
