/-! A LINEARIZATION THAT FITS BECOMES A WAY. -/
set_option maxHeartbeats 8000000 in
theorem gr_ng_ex {g : Nat → Int} {o : Nat} {m : Int} (h0 : 0 ≤ m) : ∀ n : Nat, m < gr_ng g o n → ∃ j : Nat, j < n ∧ g (o + j) < 0 ∧ gr_ng g o j = m
  | 0, h => by
    have h9 : gr_ng g o 0 = 0 := rfl
    exact gz_m 0 (by omega)
  | n + 1, h => by
    by_cases c : m < gr_ng g o n
    · obtain ⟨j, h1, h2⟩ := gr_ng_ex h0 n c
      exact ⟨j, by exact gz_m 1 (by omega), h2⟩
    · by_cases d : g (o + n) < 0
      · rw [gr_ng_s d] at h
        exact ⟨n, by exact gz_m 2 (by omega), d, by exact gz_m 3 (by omega)⟩
      · rw [gr_ng_n d] at h
        exact gz_m 4 (by omega)
theorem gr_SD_of {x : Int} {I : gr_I} (h : gr_LW (Int.toNat x) I) (h0 : 0 ≤ x) : gr_SD x I := fun k h1 h2 => by
  have h9 := h.2.2.2.2 (Int.toNat (k - 6 * x)) (by omega)
  rw [show 6 * Int.toNat x + Int.toNat (k - 6 * x) = Int.toNat k from by omega] at h9
  exact h9
theorem gr_GR_at {t x : Int} {I : gr_I} (h : gr_GR I) (ht : 0 ≤ t ∧ t ≤ 7) (h1 : 384 * t ≤ x) (h2 : x < 384 * t + I 19 (Int.toNat t)) : gr_LW (Int.toNat x) I := by
  have h9 := (h.1 (Int.toNat t) (Int.toNat (x - 384 * t)) (by omega) (by omega)).2 (by omega)
  rw [show 384 * Int.toNat t + Int.toNat (x - 384 * t) = Int.toNat x from by omega] at h9
  exact h9
def gr_IT (it a : Int) (I : gr_I) : Prop := I 0 168 + it ≤ a ∧ ∀ k : Nat, (k : Int) < it → I 43 (6 * Int.toNat (I 0 167) + k) < 0 → (0 ≤ I 103 k ∧ I 103 k < I 0 157) ∧ (I 0 168 ≤ I 104 (Int.toNat (I 103 k)) ∧ I 88 (Int.toNat (I 103 k)) ≤ a ∧ I 88 (Int.toNat (I 103 k)) - I 104 (Int.toNat (I 103 k)) + (it - 1) ≤ a - I 0 168 ∧ I 87 (Int.toNat (I 103 k)) = I 7 (Int.toNat (4 * I 41 (Int.toNat (I 0 167)) - 1 - I 43 (6 * Int.toNat (I 0 167) + k)))) ∧ ∀ j : Nat, j < k → I 43 (6 * Int.toNat (I 0 167) + j) < 0 → I 88 (Int.toNat (I 103 j)) ≤ I 104 (Int.toNat (I 103 k))
theorem gr_IT_x {it a : Int} {I Iₚ : gr_I} (h : gr_IT it a I) (g : gr_XT I Iₚ) (h1 : ∀ k : Nat, (k : Int) < it → Iₚ 103 k = I 103 k) (h2 : ∀ k, Iₚ 43 k = I 43 k) (h3 : ∀ k, Iₚ 41 k = I 41 k) (h4 : ∀ k, Iₚ 7 k = I 7 k) (h5 : Iₚ 0 168 = I 0 168) (h6 : Iₚ 0 167 = I 0 167) : gr_IT it a Iₚ := by
  refine ⟨by rw [h5]; exact h.1, fun k hk hn => ?_⟩
  rw [h6, h2] at hn
  obtain ⟨a1, a2, a3⟩ := h.2 k hk hn
  have c := g.2.1 (Int.toNat (I 103 k)) (by omega)
  rw [h1 k hk, h5, h6, h4, h3, h2, c.1, c.2.1, c.2.2]
  refine ⟨⟨a1.1, by have := g.1.1; omega⟩, a2, fun j hj hm => ?_⟩
  rw [h2] at hm
  obtain ⟨b1, _, _⟩ := h.2 j (by omega) hm
  have d := g.2.1 (Int.toNat (I 103 j)) (by omega)
  rw [h1 j (by omega), d.2.1]
  exact a3 j hj hm
def gr_WL (I0 : gr_I) (t o x y k m : Int) (I : gr_I) : Prop := (gr_FP t o y I ∧ gr_XT I0 I ∧ gr_GR I ∧ gr_IT (I 42 (Int.toNat x)) (I 0 169) I) ∧ (I 0 158 = y + 1 ∧ I0 0 158 ≤ y ∧ 0 ≤ y ∧ x = I 0 167 ∧ 0 ≤ t ∧ t ≤ 7 ∧ 384 * t ≤ x ∧ x < 384 * t + I 19 (Int.toNat t)) ∧ (I 95 (Int.toNat y) = I 41 (Int.toNat x) ∧ I 97 (Int.toNat y) = x ∧ 0 ≤ I 94 (Int.toNat y) ∧ gr_T3 (I 8 (Int.toNat (I 41 (Int.toNat x)))) (I 0 168) (I 0 169) (I 94 (Int.toNat y)) I) ∧ (0 ≤ k ∧ m = gr_ng (I 43) (6 * Int.toNat x) (Int.toNat k)) ∧ ∀ j : Nat, (j : Int) < k → I 43 (6 * Int.toNat x + j) < 0 → I 98 (4 * Int.toNat y + Int.toNat (gr_ng (I 43) (6 * Int.toNat x) j)) = I 103 j
theorem gr_WL_m {I0 I : gr_I} {t o x y k m : Int} (h : gr_WL I0 t o x y k m I) (hI : gr_Inv I) (hk : k < I 42 (Int.toNat x)) (hn : I 43 (Int.toNat (6 * x + k)) < 0) : 0 ≤ m ∧ m ≤ 3 := by
  obtain ⟨⟨_, _, hG, _⟩, ⟨_, _, _, _, a5, a6, a7, a8⟩, _, ⟨b1, b2⟩, _⟩ := h
  have lw := gr_GR_at hG ⟨a5, a6⟩ a7 a8
  have f4 := gz_hi (gr_fa4 hI (Int.toNat (I 41 (Int.toNat x))))
  have z := gr_ng_0 (I 43) (6 * Int.toNat x) (Int.toNat k)
  rw [show Int.toNat (6 * x + k) = 6 * Int.toNat x + Int.toNat k from by (/-0-/first | omega | (simp only [gz_hd] at *; omega))] at hn
  have u := gr_ng_lt (g := I 43) (o := 6 * Int.toNat x) (k := Int.toNat k) (m := Int.toNat (I 42 (Int.toNat x))) (by (/-1-/first | omega | (simp only [gz_hd] at *; omega))) hn
  rw [lw.2.2.1] at u
  (/-2-/first | (and_intros; (omega); (have o1 := gz_sh f4; omega)) | (simp only [gz_hd] at *; omega))
theorem gr_WL_no {I0 I : gr_I} {t o x y k m : Int} (h : gr_WL I0 t o x y k m I) (hn : ¬ I 43 (Int.toNat (6 * x + k)) < 0) : gr_WL I0 t o x y (k + 1) m I := by
  obtain ⟨A, B, C, ⟨b1, b2⟩, D⟩ := h
  have hx : 0 ≤ x := by omega
  rw [show Int.toNat (6 * x + k) = 6 * Int.toNat x + Int.toNat k from by omega] at hn
  refine ⟨A, B, C, ⟨by omega, ?_⟩, fun j hj hm => ?_⟩
  · rw [show Int.toNat (k + 1) = Int.toNat k + 1 from by omega, gr_ng_n hn]
    exact b2
  · by_cases c : (j : Int) < k
    · exact D j c hm
    · have e : j = Int.toNat k := by omega
      rw [e] at hm
      exact absurd hm hn
theorem gr_WL_st {I0 I Iₚ : gr_I} {t o x y k m : Int} {i : Nat} (h : gr_WL I0 t o x y k m I) (hI : gr_Inv I) (hn : I 43 (Int.toNat (6 * x + k)) < 0) (hm3 : 0 ≤ m ∧ m ≤ 3) (hi : (i : Int) = 4 * y + m) (p : ∀ b j, ¬ (b = 98 ∧ j = i) → Iₚ b j = I b j) (q : Iₚ 98 i = I 103 (Int.toNat k)) : gr_WL I0 t o x y (k + 1) (m + 1) Iₚ := by
  obtain ⟨⟨A1, A2, A3, A4⟩, ⟨B1, B2, B3, B4, B5, B6, B7, B8⟩, ⟨C1, C2, C3, C4⟩, ⟨b1, b2⟩, D⟩ := h
  have r : ∀ b : Nat, ¬ b = 98 → ∀ j, Iₚ b j = I b j := fun b hb j => p b j (fun q => hb q.1)
  have rf : ∀ b : Nat, ¬ b = 98 → Iₚ b = I b := fun b hb => funext (r b hb)
  have z : Iₚ 0 = I 0 := rf 0 (by decide)
  rw [show Int.toNat (6 * x + k) = 6 * Int.toNat x + Int.toNat k from by (/-0-/first | omega | (simp only [gz_hd] at *; omega))] at hn
  have yg : ∀ j : Nat, (j : Int) < 4 * y → Iₚ 98 j = I 98 j := fun j hj => p _ _ (fun q => by have := q.2; (/-1-/first | omega | (simp only [gz_hd] at *; omega)))
  have xt : gr_XT I Iₚ → True := fun _ => trivial
  refine ⟨⟨⟨gr_NX_fr A1.1 (r _ (by decide)) (r _ (by decide) _), gr_SB_fr A1.2.1 (r _ (by decide)) (by rw [z]; exact Int.le_refl _) (r _ (by decide) _), gr_FC_fr A1.2.2.1 (r _ (by decide)) (r _ (by decide)) (r _ (by decide) _) (r _ (by decide) _), gr_LS_fr A1.2.2.2.1 (r _ (by decide)) (r _ (by decide)) (r _ (by decide)) (r _ (by decide)) (r _ (by decide)) (r _ (by decide) _) (r _ (by decide) _), gr_MO_fr A1.2.2.2.2.1 (r _ (by decide)) (r _ (by decide)) (r _ (by decide)) (r _ (by decide) _), gr_OT_fr A1.2.2.2.2.2.1 (r _ (by decide)) (r _ (by decide)) (r _ (by decide)) (r _ (by decide) _), fun w hw => ?_⟩, ⟨by rw [z]; exact A2.1, fun w hw => ?_, fun w hw => ?_⟩, gr_GR_fr A3 (r _ (by decide)) (r _ (by decide)) (r _ (by decide)) (r _ (by decide)) (r _ (by decide)) (r _ (by decide)) (r _ (by decide)) (r _ (by decide)) (r _ (by decide)) (r _ (by decide)) (r _ (by decide)) (r _ (by decide)) (r _ (by decide) _), ?_⟩, ⟨by rw [z]; exact B1, B2, B3, by rw [z]; exact B4, B5, B6, B7, by rw [rf 19 (by decide)]; exact B8⟩, ⟨by rw [rf 95 (by decide), rf 41 (by decide)]; exact C1, by rw [rf 97 (by decide)]; exact C2, by rw [rf 94 (by decide)]; exact C3, ?_⟩, ⟨by (/-2-/first | omega | (simp only [gz_hd] at *; omega)), ?_⟩, fun j hj hm => ?_⟩
  · have w9 := A1.2.2.2.2.2.2 w hw
    unfold gr_WK at w9 ⊢
    rw [rf 97 (by decide), rf 19 (by decide), rf 95 (by decide), rf 41 (by decide), rf 6 (by decide), rf 104 (by decide), rf 88 (by decide), rf 87 (by decide), rf 94 (by decide), rf 18 (by decide), z]
    refine ⟨fun h0 => ⟨(w9.1 h0).1, fun mm hmm => ?_⟩, w9.2⟩
    have f4 := gz_hi (gr_fa4 hI (Int.toNat (I 95 w)))
    have e9 := yg (4 * w + mm) (by (/-3-/first | (have o1 := gz_sh f4; omega) | (simp only [gz_hd] at *; omega)))
    obtain ⟨u1, u2, u3⟩ := (w9.1 h0).2 mm hmm
    rw [e9]
    exact ⟨u1, u2, fun ii hii => by rw [yg (4 * w + ii) (by (/-4-/first | (have o1 := gz_sh f4; omega) | (simp only [gz_hd] at *; omega)))]; exact u3 ii hii⟩
  · rw [rf 87 (by decide), rf 88 (by decide), rf 104 (by decide)]
    exact A2.2.1 w hw
  · rw [rf 94 (by decide), rf 95 (by decide), rf 97 (by decide)]
    have a9 := A2.2.2 w hw
    exact ⟨a9.1, fun aa ha => by rw [yg (4 * w + aa) (by (/-5-/first | omega | (simp only [gz_hd] at *; omega)))]; exact a9.2 aa ha⟩
  · unfold gr_IT at A4 ⊢
    rw [rf 42 (by decide), rf 43 (by decide), rf 103 (by decide), rf 104 (by decide), rf 88 (by decide), rf 87 (by decide), rf 7 (by decide), rf 41 (by decide), z]
    exact A4
  · rw [rf 8 (by decide), rf 41 (by decide), rf 94 (by decide), z]
    exact gr_T3_c C4 (fun _ => r _ (by decide) _) (fun _ => r _ (by decide) _) (fun _ => r _ (by decide) _)
  · rw [rf 43 (by decide), show Int.toNat (k + 1) = Int.toNat k + 1 from by (/-6-/first | omega | (simp only [gz_hd] at *; omega)), gr_ng_s hn]
    (/-7-/first | omega | (simp only [gz_hd] at *; omega))
  · rw [rf 43 (by decide)] at hm ⊢
    rw [rf 103 (by decide)]
    by_cases c : (j : Int) < k
    · have u := gr_ng_lt (g := I 43) (o := 6 * Int.toNat x) (k := j) (m := Int.toNat k) (by (/-8-/first | omega | (simp only [gz_hd] at *; omega))) hm
      have u0 := gr_ng_0 (I 43) (6 * Int.toNat x) j
      rw [p _ _ (fun q => by have := q.2; (/-9-/first | omega | (simp only [gz_hd] at *; omega)))]
      exact D j c hm
    · have e : j = Int.toNat k := by (/-10-/first | omega | (simp only [gz_hd] at *; omega))
      rw [e, ← b2, show 4 * Int.toNat y + Int.toNat m = i from by (/-11-/first | omega | (simp only [gz_hd] at *; omega)), q]
theorem gr_WL_in {I0 I1 I : gr_I} {t o x y nd : Int} (hP : gr_FP t o (I1 0 158) I) (hx : gr_XT I0 I) (hG : gr_GR I) (hIT : gr_IT (I 42 (Int.toNat x)) (I 0 169) I) (h0 : I0 0 158 ≤ I1 0 158) (hy : y = I1 0 158) (hy0 : 0 ≤ y) (hY : I 0 158 = y + 1) (hxx : x = I 0 167) (ht : 0 ≤ t ∧ t ≤ 7) (ht1 : 384 * t ≤ x) (ht2 : x < 384 * t + I 19 (Int.toNat t)) (h3 : gr_W3 nd (I 41 (Int.toNat x)) x y I) (hT : gr_T3 (I 8 (Int.toNat (I 41 (Int.toNat x)))) (I 0 168) (I 0 169) nd I) : gr_WL I0 t o x y 0 0 I := by
  rcases h3 with h3 | h3
  · omega
  · rw [← hy] at hP
    exact ⟨⟨hP, hx, hG, hIT⟩, ⟨hY, by omega, hy0, hxx, ht.1, ht.2, ht1, ht2⟩, ⟨h3.2.1, h3.2.2, (hP.2.2.1.1 (Int.toNat y) (by omega)).1, by rw [h3.1]; exact hT⟩, ⟨Int.le_refl _, rfl⟩, fun j hj => by omega⟩
theorem gr_WL_end {I0 I : gr_I} {t o x y k m : Int} (h : gr_WL I0 t o x y k m I) (hI : gr_Inv I) (hk : I 42 (Int.toNat x) ≤ k) : gr_FO t o I ∧ gr_XT I0 I := by
  obtain ⟨⟨A1, A2, A3, A4⟩, ⟨B1, B2, B3, B4, B5, B6, B7, B8⟩, ⟨C1, C2, C3, C4⟩, ⟨b1, b2⟩, D⟩ := h
  have lw := gr_GR_at A3 ⟨B5, B6⟩ B7 B8
  obtain ⟨l1, l2, l3, l4, l5⟩ := lw
  refine ⟨⟨A1.1, A1.2.1, A1.2.2.1, A1.2.2.2.1, A1.2.2.2.2.1, A1.2.2.2.2.2.1, fun w hw => ?_⟩, A2⟩
  by_cases c : (w : Int) < y
  · exact A1.2.2.2.2.2.2 w c
  · have ew : w = Int.toNat y := by omega
    have e4 : ((Int.toNat x : Nat) : Int) = x := by omega
    subst ew
    have at' : ∀ mm : Nat, (mm : Int) < I 6 (Int.toNat (I 41 (Int.toNat x))) → ∃ j : Nat, (j : Int) < I 42 (Int.toNat x) ∧ I 43 (6 * Int.toNat x + j) < 0 ∧ gr_ng (I 43) (6 * Int.toNat x) j = (mm : Int) ∧ I 98 (4 * Int.toNat y + mm) = I 103 j := fun mm hmm => by
      obtain ⟨j, j1, j2, j3⟩ := gr_ng_ex (g := I 43) (o := 6 * Int.toNat x) (m := (mm : Int)) (by omega) (Int.toNat (I 42 (Int.toNat x))) (by rw [l3]; exact hmm)
      have d9 := D j (by omega) j2
      rw [j3, Int.toNat_natCast] at d9
      exact ⟨j, by omega, j2, j3, d9⟩
    refine ⟨fun _ => ⟨by rw [C2]; exact ⟨B7, B8, C1⟩, fun mm hmm => ?_⟩, fun q => by rw [C2] at q; omega⟩
    rw [C1] at hmm
    obtain ⟨j, j1, j2, j3, j4⟩ := at' mm hmm
    obtain ⟨i0, i1⟩ := A4
    rw [← B4] at i1
    obtain ⟨u1, u2, u3⟩ := i1 j j1 j2
    have kd := (gr_b_87 hI (Int.toNat (I 103 j)))
    have kn := (gr_b_87 hI (Int.toNat (I 94 (Int.toNat y))))
    rcases C4 with C4 | C4
    · omega
    rw [j4]
    refine ⟨u1, ⟨by omega, by omega, ?_⟩, fun ii hii => ?_⟩
    · by_cases one : I 42 (Int.toNat x) = 1
      · have ej : j = 0 := by omega
        rw [ej, Nat.add_zero] at j2
        have l9 := l4 one j2
        rw [ej, Nat.add_zero] at u2
        rw [ej]
        omega
      · omega
    · obtain ⟨j', a1, a2, a3, a4⟩ := at' ii (by omega)
      rw [a4]
      refine u3 j' ?_ a2
      by_cases lt : j' < j
      · exact lt
      · have u := gr_ng_le (g := I 43) (o := 6 * Int.toNat x) (k := j) j' (by omega)
        omega
theorem gr_GR_F {I Iₚ : gr_I} {fs as : List Nat} (h : gr_GR I) (F : gr_fr fs as I Iₚ) (hr : (!(as.elem 19) && !(as.elem 18) && !(as.elem 36) && !(as.elem 41) && !(as.elem 42) && !(as.elem 43) && !(as.elem 45) && !(as.elem 46) && !(as.elem 47) && !(as.elem 6) && !(as.elem 7) && !(as.elem 8) && !(fs.elem 3)) = true := by rfl) : gr_GR Iₚ := by
  simp only [Bool.and_eq_true, Bool.not_eq_true'] at hr
  obtain ⟨⟨⟨⟨⟨⟨⟨⟨⟨⟨⟨⟨a1, a2⟩, a3⟩, a4⟩, a5⟩, a6⟩, a7⟩, a8⟩, a9⟩, a10⟩, a11⟩, a12⟩, a13⟩ := hr
  exact gr_GR_fr h (fun k => F _ k a1) (fun k => F _ k a2) (fun k => F _ k a3) (fun k => F _ k a4) (fun k => F _ k a5) (fun k => F _ k a6) (fun k => F _ k a7) (fun k => F _ k a8) (fun k => F _ k a9) (fun k => F _ k a10) (fun k => F _ k a11) (fun k => F _ k a12) (F _ _ a13)
set_option maxHeartbeats 8000000 in
set_option maxRecDepth 100000 in
theorem r_finish {ws0 : List Cond} {tb : String → gz_T} (hws : ∀ w ∈ gr_ws, w ∈ ws0) (htb : tb RX13 = gr_T) (ext : gz_Sh) (t : Int) (o : Int) (I : gr_I) (J : gr_J) (hI : gr_Inv I)   (x0 : gr_GR I) (x1 : gr_FO t o I) (x2 : gr_IT (I 42 (Int.toNat (I 0 167))) (I 0 169) I) (x3 : o = ((I 0 169 - I 0 168) * 25 + I 0 168) * 32 + I 8 (Int.toNat (I 41 (Int.toNat (I 0 167))))) (x4 : 0 ≤ t ∧ t ≤ 7) (x5 : 384 * t ≤ I 0 167) (x6 : I 0 167 < 384 * t + I 19 (Int.toNat t)) (x7 : I 0 168 < I 0 169) (x8 : I 0 169 ≤ I 0 143) : ∃ r hₚ, gz_Ev ws0 tb 3 (yX13_finish, cX13_finish, 6, none) [.inr (.inr (some 0))] (gr_sh ++ ext) (gr_h I J) r (gr_sh ++ ext) hₚ 0 0 ∧ (∃ (Iₚ : gr_I) (Jₚ : gr_J), hₚ = gr_h Iₚ Jₚ ∧ gr_Inv Iₚ ∧ gr_fr [157, 158, 160] [87, 88, 89, 90, 92, 93, 94, 95, 96, 97, 98, 101, 104] I Iₚ ∧ gr_fj [157, 158, 160] [87, 88, 89, 90, 92, 93, 94, 95, 96, 97, 98, 101, 104] J Jₚ ∧ r = none ∧ (gr_FO t o Iₚ) ∧ (gr_XT I Iₚ)) := by
  have FI : gr_fr [157, 158, 160] [87, 88, 89, 90, 92, 93, 94, 95, 96, 97, 98, 101, 104] I I := fun _ _ _ => rfl
  have FJ : gr_fj [157, 158, 160] [87, 88, 89, 90, 92, 93, 94, 95, 96, 97, 98, 101, 104] J J := fun _ _ _ => rfl
  have hD : gv_D (gr_E ws0 tb 2 (yX13_finish, cX13_finish, 6, none) kX13_finish) := gq_of oX13_finish
  refine gr_ev (d := 2) (l := kX13_finish) (Po := fun r hₚ => (∃ (Iₚ : gr_I) (Jₚ : gr_J), hₚ = gr_h Iₚ Jₚ ∧ gr_Inv Iₚ ∧ gr_fr [157, 158, 160] [87, 88, 89, 90, 92, 93, 94, 95, 96, 97, 98, 101, 104] I Iₚ ∧ gr_fj [157, 158, 160] [87, 88, 89, 90, 92, 93, 94, 95, 96, 97, 98, 101, 104] J Jₚ ∧ r = none ∧ (gr_FO t o Iₚ) ∧ (gr_XT I Iₚ))) htb rfl (Nat.le_of_ble_eq_true rfl) ?_
  have f6 := gz_hi ((gr_b_0_167 hI))
  have f7 := gz_hi ((gr_b_0_170 hI))
  have L7 : ∀ (n : Nat) (I8 : gr_I) (J9 : gr_J) (v1_10 : Int) (v2_10 : Int), (5 - v2_10).toNat < n → gr_Inv I8 → gr_fr [157, 158, 160] [87, 88, 89, 90, 92, 93, 94, 95, 96, 97, 98, 101, 104] I I8 → gr_fj [157, 158, 160] [87, 88, 89, 90, 92, 93, 94, 95, 96, 97, 98, 101, 104] J J9 → ((0 ≤ v1_10 ∧ v1_10 ≤ 3071) ∧ (0 ≤ v2_10 ∧ v2_10 ≤ 4) ∧ (v1_10 = I 0 167) ∧ (I8 0 157 = I 0 157) ∧ (I8 0 158 = I 0 158)) → (gr_FO t o I8) → (gr_XT I I8) → gv_X (gr_E ws0 tb 2 (yX13_finish, cX13_finish, 6, none) kX13_finish) (gv_Q cX13_finish none (gr_sh ++ ext) (fun r hₚ => (∃ (Iₚ : gr_I) (Jₚ : gr_J), hₚ = gr_h Iₚ Jₚ ∧ gr_Inv Iₚ ∧ gr_fr [157, 158, 160] [87, 88, 89, 90, 92, 93, 94, 95, 96, 97, 98, 101, 104] I Iₚ ∧ gr_fj [157, 158, 160] [87, 88, 89, 90, 92, 93, 94, 95, 96, 97, 98, 101, 104] J Jₚ ∧ r = none ∧ (gr_FO t o Iₚ) ∧ (gr_XT I Iₚ)))) (7, [(0, .inr (.inr (some 0))), (1, .inl v1_10), (2, .inl v2_10)], [], gr_sh ++ ext, gr_h I8 J9) := by
    intro n
    induction n with
    | zero => intro I8 J9 v1_10 v2_10 hn; (/-0-/first | omega | (simp only [gz_hd] at *; omega))
    | succ n ih7 =>
      intro I8 J9 v1_10 v2_10 hn hI8 FI8 FJ9 m_10 e1_10 e2_10
      obtain ⟨hv1_10, hv2_10, e0_10, e3_10, e4_10⟩ := gz_h5 m_10
      have q9_10 := (gz_sh e0_10)
      subst q9_10
      have f14 := gz_hi ((gr_b_0_168 hI8))
      have f15 := gz_hi ((gr_b_0_169 hI8))
      have f16 := gz_hi ((gr_b_0_167 hI8))
      have t18 := gz_hi (FI8 0 168 rfl)
      have t19 := gz_hi (FI8 0 169 rfl)
      have t20 := gz_hi (FI8 0 167 rfl)
      have t21 := gz_hi (FI8 0 143 rfl)
      have t22 := gz_hi (FI8 0 170 rfl)
      have t23 := gz_hi (FI8 19 (Int.toNat t) rfl)
      have L92 : ∀ (n : Nat) (I24 : gr_I) (J25 : gr_J) (v3_26 : Int) (v4_26 : Int) (v5_26 : Int), (7 - v5_26).toNat < n → gr_Inv I24 → gr_fr [157, 158, 160] [87, 88, 89, 90, 92, 93, 94, 95, 96, 97, 98, 101, 104] I I24 → gr_fj [157, 158, 160] [87, 88, 89, 90, 92, 93, 94, 95, 96, 97, 98, 101, 104] J J25 → ((0 ≤ (I 0 167) ∧ (I 0 167) ≤ 3071) ∧ (0 ≤ v3_26 ∧ v3_26 ≤ 8999) ∧ (0 ≤ v4_26 ∧ v4_26 ≤ 4) ∧ (0 ≤ v5_26 ∧ v5_26 ≤ 6)) → (gr_WL I t o (I 0 167) v3_26 v5_26 v4_26 I24) → gv_X (gr_E ws0 tb 2 (yX13_finish, cX13_finish, 6, none) kX13_finish) (gv_Q cX13_finish none (gr_sh ++ ext) (fun r hₚ => (∃ (Iₚ : gr_I) (Jₚ : gr_J), hₚ = gr_h Iₚ Jₚ ∧ gr_Inv Iₚ ∧ gr_fr [157, 158, 160] [87, 88, 89, 90, 92, 93, 94, 95, 96, 97, 98, 101, 104] I Iₚ ∧ gr_fj [157, 158, 160] [87, 88, 89, 90, 92, 93, 94, 95, 96, 97, 98, 101, 104] J Jₚ ∧ r = none ∧ (gr_FO t o Iₚ) ∧ (gr_XT I Iₚ)))) (92, [(0, .inr (.inr (some 0))), (1, .inl (I 0 167)), (3, .inl v3_26), (4, .inl v4_26), (5, .inl v5_26)], [], gr_sh ++ ext, gr_h I24 J25) := by
        intro n
        induction n with
        | zero => intro I24 J25 v3_26 v4_26 v5_26 hn; (/-1-/first | omega | (simp only [gz_hd] at *; omega))
        | succ n ih92 =>
          intro I24 J25 v3_26 v4_26 v5_26 hn hI24 FI24 FJ25 m_26 e0_26
          clear hv1_10 hv2_10 e0_10 e3_10 e4_10 f14 f15 f16 t18 t19 t20 t21 t22 t23
          obtain ⟨h_I_0_167__26, hv3_26, hv4_26, hv5_26⟩ := gz_h4 m_26
          have f32 := gz_hi ((gr_b_0_167 hI24))
          have t36 := gz_hi (FI24 0 167 rfl)
          have L139 : ∀ (I40 : gr_I) (J41 : gr_J) (v4_42 : Int), gr_Inv I40 → gr_fr [157, 158, 160] [87, 88, 89, 90, 92, 93, 94, 95, 96, 97, 98, 101, 104] I I40 → gr_fj [157, 158, 160] [87, 88, 89, 90, 92, 93, 94, 95, 96, 97, 98, 101, 104] J J41 → ((0 ≤ (I 0 167) ∧ (I 0 167) ≤ 3071) ∧ (0 ≤ v3_26 ∧ v3_26 ≤ 8999) ∧ (0 ≤ v4_42 ∧ v4_42 ≤ 4) ∧ (0 ≤ v5_26 ∧ v5_26 ≤ 5)) → (gr_WL I t o (I 0 167) v3_26 (v5_26 + 1) v4_42 I40) → gv_X (gr_E ws0 tb 2 (yX13_finish, cX13_finish, 6, none) kX13_finish) (gv_Q cX13_finish none (gr_sh ++ ext) (fun r hₚ => (∃ (Iₚ : gr_I) (Jₚ : gr_J), hₚ = gr_h Iₚ Jₚ ∧ gr_Inv Iₚ ∧ gr_fr [157, 158, 160] [87, 88, 89, 90, 92, 93, 94, 95, 96, 97, 98, 101, 104] I Iₚ ∧ gr_fj [157, 158, 160] [87, 88, 89, 90, 92, 93, 94, 95, 96, 97, 98, 101, 104] J Jₚ ∧ r = none ∧ (gr_FO t o Iₚ) ∧ (gr_XT I Iₚ)))) (139, [(0, .inr (.inr (some 0))), (1, .inl (I 0 167)), (3, .inl v3_26), (4, .inl v4_42), (5, .inl v5_26)], [], gr_sh ++ ext, gr_h I40 J41) := by
            intro I40 J41 v4_42 hI40 FI40 FJ41 m_42 e0_42
            clear h_I_0_167__26 hv3_26 hv4_26 hv5_26 f32 t36
            obtain ⟨h_I_0_167__42, hv3_26_42, hv4_42, hv5_26_42⟩ := gz_h4 m_42
            have f48 := gz_hi ((gr_b_0_167 hI40))
            have t52 := gz_hi (FI40 0 167 rfl)
            refine gv_run 2 true hD (pcₚ := 92) (lvₚ := [(5, .inl (v5_26 + 1)), (0, .inr (.inr (some 0))), (1, .inl (I 0 167)), (3, .inl v3_26), (4, .inl v4_42)]) (stₚ := []) (hₚ := gr_h I40 J41) (C := ((True ∧ True) ∧ True)) rfl ⟨⟨trivial, trivial⟩, trivial⟩ ?_
            refine gv_pick [1, 2, 3, 4, 0] rfl ?_
            exact ih92 I40 J41 v3_26 v4_42 (v5_26 + 1) (by (/-2-/first | (have o1 := gz_sh hv5_26_42; omega) | (simp only [gz_hd] at *; omega))) hI40 FI40 FJ41 (by (/-3-/first | (and_intros; (have o1 := gz_sh f48; have o2 := gz_sh t52; omega); (have o1 := gz_sh f48; have o2 := gz_sh t52; omega); (have o1 := gz_sh hv3_26_42; omega); (have o1 := gz_sh hv3_26_42; omega); (have o1 := gz_sh hv4_42; omega); (have o1 := gz_sh hv4_42; omega); (have o1 := gz_sh hv5_26_42; omega); (have o1 := gz_sh hv5_26_42; omega)) | (simp only [gz_hd] at *; omega))) e0_42
          have f56 := gz_hi ((gr_b_42 hI24 (Int.toNat ((I 0 167)))))
          refine gv_run 5 true hD (pcₚ := 100) (lvₚ := [(0, .inr (.inr (some 0))), (1, .inl (I 0 167)), (3, .inl v3_26), (4, .inl v4_26), (5, .inl v5_26)]) (stₚ := [.inl (I24 42 (Int.toNat ((I 0 167)))), .inl v5_26]) (hₚ := gr_h I24 J25) (C := (((((True ∧ True) ∧ True) ∧ True) ∧ True) ∧ (0 ≤ (I 0 167) ∧ (I 0 167) < ((3072 : Nat) : Int)))) rfl ⟨⟨⟨⟨⟨trivial, trivial⟩, trivial⟩, trivial⟩, trivial⟩, ⟨by (/-4-/first | (have o1 := gz_sh f32; have o2 := gz_sh t36; omega) | (simp only [gz_hd] at *; omega)), by (/-5-/first | (have o1 := gz_sh f32; have o2 := gz_sh t36; omega) | (simp only [gz_hd] at *; omega))⟩⟩ ?_
          refine gv_icmp_ge (t := 145) hD rfl rfl ⟨⟨by (/-6-/first | (have o1 := gz_sh hv5_26; omega) | (simp only [gz_hd] at *; omega)), by (/-7-/first | (have o1 := gz_sh hv5_26; omega) | (simp only [gz_hd] at *; omega))⟩, ⟨by (/-8-/first | (have o1 := gz_sh f56; omega) | (simp only [gz_hd] at *; omega)), by (/-9-/first | (have o1 := gz_sh f56; omega) | (simp only [gz_hd] at *; omega))⟩⟩ (fun c57 => ?_) (fun c57 => ?_)
          · exact gv_vret hD rfl ⟨I24, J25, rfl, hI24, FI24, FJ25, ⟨rfl, (gr_WL_end e0_26 hI24 (by (/-10-/first | omega | (simp only [gz_hd] at *; omega)))).1, (gr_WL_end e0_26 hI24 (by (/-11-/first | omega | (simp only [gz_hd] at *; omega)))).2⟩⟩
          · refine gv_run 7 true hD (pcₚ := 114) (lvₚ := [(0, .inr (.inr (some 0))), (1, .inl (I 0 167)), (3, .inl v3_26), (4, .inl v4_26), (5, .inl v5_26)]) (stₚ := [.inl ((6 * (I 0 167)) + v5_26), .inr (.inr (some 43))]) (hₚ := gr_h I24 J25) (C := (((((((True ∧ True) ∧ True) ∧ True) ∧ True) ∧ True) ∧ True) ∧ True)) rfl ⟨⟨⟨⟨⟨⟨⟨trivial, trivial⟩, trivial⟩, trivial⟩, trivial⟩, trivial⟩, trivial⟩, trivial⟩ ?_
            have f58 := gz_hi ((show (-4) ≤ I24 43 (Int.toNat (((6 * (I 0 167)) + v5_26))) ∧ I24 43 (Int.toNat (((6 * (I 0 167)) + v5_26))) ≤ 32015 from (hI24 43 (Int.toNat (((6 * (I 0 167)) + v5_26)))).1))
            refine gv_run 1 true hD (pcₚ := 115) (lvₚ := [(0, .inr (.inr (some 0))), (1, .inl (I 0 167)), (3, .inl v3_26), (4, .inl v4_26), (5, .inl v5_26)]) (stₚ := [.inl (I24 43 (Int.toNat (((6 * (I 0 167)) + v5_26))))]) (hₚ := gr_h I24 J25) (C := (True ∧ (0 ≤ (((6 * (I 0 167)) + v5_26)) ∧ (((6 * (I 0 167)) + v5_26)) < ((18432 : Nat) : Int)))) rfl ⟨trivial, ⟨by (/-12-/first | (have o1 := gz_sh f32; have o2 := gz_sh hv5_26; have o3 := gz_sh t36; omega) | (simp only [gz_hd] at *; omega)), by (/-13-/first | (have o1 := gz_sh f32; have o2 := gz_sh f56; have o3 := gz_sh t36; omega) | (simp only [gz_hd] at *; omega))⟩⟩ ?_
            refine gv_if_ge (t := 139) hD rfl rfl ⟨by (/-14-/first | (have o1 := gz_sh f58; omega) | (simp only [gz_hd] at *; omega)), by (/-15-/first | (have o1 := gz_sh f58; omega) | (simp only [gz_hd] at *; omega))⟩ (fun c59 => ?_) (fun c59 => ?_)
            · exact L139 I24 J25 v4_26 hI24 FI24 FJ25 (by (/-16-/first | (and_intros; (have o1 := gz_sh f32; have o2 := gz_sh t36; omega); (have o1 := gz_sh f32; have o2 := gz_sh t36; omega); (have o1 := gz_sh hv3_26; omega); (have o1 := gz_sh hv3_26; omega); (have o1 := gz_sh hv4_26; omega); (have o1 := gz_sh hv4_26; omega); (have o1 := gz_sh hv5_26; omega); (have o1 := gz_sh f56; omega)) | (simp only [gz_hd] at *; omega))) (gr_WL_no e0_26 (by (/-17-/first | (have o1 := gz_sh f58; omega) | (simp only [gz_hd] at *; omega))))
            · refine gv_run 1 true hD (pcₚ := 119) (lvₚ := [(0, .inr (.inr (some 0))), (1, .inl (I 0 167)), (3, .inl v3_26), (4, .inl v4_26), (5, .inl v5_26)]) (stₚ := [.inr (.inr (some 0))]) (hₚ := gr_h I24 J25) (C := (True ∧ True)) rfl ⟨trivial, trivial⟩ ?_
              have t60 := gz_hi (gr_WL_m e0_26 hI24 (by (/-18-/first | omega | (simp only [gz_hd] at *; omega))) (by (/-19-/first | omega | (simp only [gz_hd] at *; omega))))
              refine gv_run 7 true hD (pcₚ := 131) (lvₚ := [(4, .inl (v4_26 + 1)), (0, .inr (.inr (some 0))), (1, .inl (I 0 167)), (3, .inl v3_26), (5, .inl v5_26)]) (stₚ := [.inl ((4 * v3_26) + v4_26), .inr (.inr (some 98))]) (hₚ := gr_h I24 J25) (C := (((((((True ∧ True) ∧ True) ∧ True) ∧ True) ∧ True) ∧ True) ∧ True)) rfl ⟨⟨⟨⟨⟨⟨⟨trivial, trivial⟩, trivial⟩, trivial⟩, trivial⟩, trivial⟩, trivial⟩, trivial⟩ ?_
              have f61 := gz_hi ((gr_b_103 hI24 (Int.toNat v5_26)))
              refine gv_run 4 true hD (pcₚ := 138) (lvₚ := [(4, .inl (v4_26 + 1)), (0, .inr (.inr (some 0))), (1, .inl (I 0 167)), (3, .inl v3_26), (5, .inl v5_26)]) (stₚ := [.inl (I24 103 (Int.toNat v5_26)), .inl ((4 * v3_26) + v4_26), .inr (.inr (some 98))]) (hₚ := gr_h I24 J25) (C := ((((True ∧ True) ∧ True) ∧ True) ∧ (0 ≤ v5_26 ∧ v5_26 < ((6 : Nat) : Int)))) rfl ⟨⟨⟨⟨trivial, trivial⟩, trivial⟩, trivial⟩, ⟨by (/-20-/first | (have o1 := gz_sh hv5_26; omega) | (simp only [gz_hd] at *; omega)), by (/-21-/first | (have o1 := gz_sh f56; omega) | (simp only [gz_hd] at *; omega))⟩⟩ ?_
              refine gv_run 1 true hD (pcₚ := 139) (lvₚ := [(4, .inl (v4_26 + 1)), (0, .inr (.inr (some 0))), (1, .inl (I 0 167)), (3, .inl v3_26), (5, .inl v5_26)]) (stₚ := []) (hₚ := gz_up (gr_h I24 J25) 98 (Int.toNat (((4 * v3_26) + v4_26))) (.inl ((I24 103 (Int.toNat v5_26))))) (C := (True ∧ (0 ≤ (((4 * v3_26) + v4_26)) ∧ (((4 * v3_26) + v4_26)) < ((36000 : Nat) : Int)))) rfl ⟨trivial, ⟨by (/-22-/first | (have o1 := gz_sh hv3_26; have o2 := gz_sh hv4_26; omega) | (simp only [gz_hd] at *; omega)), by (/-23-/first | (have o1 := gz_sh hv3_26; have o2 := gz_sh t60; omega) | (simp only [gz_hd] at *; omega))⟩⟩ ?_
              refine gr_st hI24 FI24 rfl rfl ⟨⟨by show 0 ≤ _; (/-24-/first | (have o1 := gz_sh f61; omega) | (simp only [gz_hd] at *; omega)), by show _ ≤ 2999; (/-25-/first | (have o1 := gz_sh f61; omega) | (simp only [gz_hd] at *; omega))⟩, trivial⟩ (fun I62 hI62 FI62 q63 p63 => ?_)
              have t69 := gz_hi (p63 0 167 (fun q => absurd q.1 (by first | exact gz_ne rfl | decide)))
              refine gv_pick [1, 2, 3, 0, 4] rfl ?_
              exact L139 I62 J25 (v4_26 + 1) hI62 FI62 FJ25 (by (/-26-/first | (and_intros; (have o1 := gz_sh f32; have o2 := gz_sh t36; omega); (have o1 := gz_sh f32; have o2 := gz_sh t36; omega); (have o1 := gz_sh hv3_26; omega); (have o1 := gz_sh hv3_26; omega); (have o1 := gz_sh hv4_26; omega); (have o1 := gz_sh t60; omega); (have o1 := gz_sh hv5_26; omega); (have o1 := gz_sh f56; omega)) | (simp only [gz_hd] at *; omega))) (gr_WL_st e0_26 hI24 (by (/-27-/first | omega | (simp only [gz_hd] at *; omega))) ⟨by (/-28-/first | (have o1 := gz_sh hv4_26; omega) | (simp only [gz_hd] at *; omega)), by (/-29-/first | (have o1 := gz_sh t60; omega) | (simp only [gz_hd] at *; omega))⟩ (by (/-30-/first | (have o1 := gz_sh hv3_26; have o2 := gz_sh hv4_26; omega) | (simp only [gz_hd] at *; omega))) p63 q63)
      refine gv_run 2 true hD (pcₚ := 9) (lvₚ := [(0, .inr (.inr (some 0))), (1, .inl (I 0 167)), (2, .inl v2_10)]) (stₚ := [.inl 4, .inl v2_10]) (hₚ := gr_h I8 J9) (C := ((True ∧ True) ∧ True)) rfl ⟨⟨trivial, trivial⟩, trivial⟩ ?_
      refine gv_icmp_ge (t := 30) hD rfl rfl ⟨⟨by (/-31-/first | (have o1 := gz_sh hv2_10; omega) | (simp only [gz_hd] at *; omega)), by (/-32-/first | (have o1 := gz_sh hv2_10; omega) | (simp only [gz_hd] at *; omega))⟩, ⟨by (/-33-/first | omega | (simp only [gz_hd] at *; omega)), by (/-34-/first | omega | (simp only [gz_hd] at *; omega))⟩⟩ (fun c85 => ?_) (fun c85 => ?_)
      · refine gv_run 2 true hD (pcₚ := 32) (lvₚ := [(0, .inr (.inr (some 0))), (1, .inl (I 0 167)), (2, .inl v2_10)]) (stₚ := [.inl (I 0 167), .inr (.inr (some 0))]) (hₚ := gr_h I8 J9) (C := ((True ∧ True) ∧ True)) rfl ⟨⟨trivial, trivial⟩, trivial⟩ ?_
        obtain ⟨r87, h87, E87, P87⟩ := r_saidOf (ws0 := ws0) (tb := tb) hws htb ext I8 J9 hI8 (I 0 167) ⟨by (/-39-/first | (have o1 := gz_sh f16; have o2 := gz_sh t20; omega) | (simp only [gz_hd] at *; omega)), by (/-40-/first | (have o1 := gz_sh f16; have o2 := gz_sh t20; omega) | (simp only [gz_hd] at *; omega))⟩ (gr_SD_of (gr_GR_at (t := t) (gr_GR_F x0 FI8) ⟨by (/-41-/first | omega | (simp only [gz_hd] at *; omega)), by (/-42-/first | omega | (simp only [gz_hd] at *; omega))⟩ (x := (I 0 167)) (by (/-43-/first | omega | (simp only [gz_hd] at *; omega))) (by (/-44-/first | (have o1 := gz_sh t23; omega) | (simp only [gz_hd] at *; omega)))) (by (/-45-/first | (have o1 := gz_sh f16; have o2 := gz_sh t20; omega) | (simp only [gz_hd] at *; omega))))
        obtain ⟨I88, J89, rfl, hI88, g87, k87, ⟨z87, rfl, q87⟩⟩ := P87
        replace q87 := gz_hi q87
        have FI88 := gr_frt FI8 g87 rfl rfl
        have FJ89 := gr_fjt FJ9 k87 rfl rfl
        have t90 := gz_hi (g87 0 157 rfl)
        have t91 := gz_hi (g87 0 143 rfl)
        have t92 := gz_hi (g87 0 158 rfl)
        have t93 := gz_hi (g87 0 168 rfl)
        have t94 := gz_hi (g87 0 169 rfl)
        have t95 := gz_hi (g87 0 167 rfl)
        have t96 := gz_hi (g87 0 170 rfl)
        have t97 := gz_hi (g87 19 (Int.toNat t) rfl)
        refine gv_callV hD rfl (As := [.inl (I 0 167)]) (st := []) rfl (by decide) rfl rfl (gr_lV hws rfl) (Nat.le_of_ble_eq_true rfl) (gz_Ev_mono (d := 1) (by decide) E87) ?_
        show gv_X _ _ (35, [(0, .inr (.inr (some 0))), (1, .inl (I 0 167)), (2, .inl v2_10)], [.inl z87], gr_sh ++ ext, gr_h I88 J89)
        refine gv_run 2 true hD (pcₚ := 37) (lvₚ := [(2, .inl z87), (0, .inr (.inr (some 0))), (1, .inl (I 0 167))]) (stₚ := [.inl z87]) (hₚ := gr_h I88 J89) (C := ((True ∧ True) ∧ True)) rfl ⟨⟨trivial, trivial⟩, trivial⟩ ?_
        refine gv_if_ge (t := 41) hD rfl rfl ⟨by (/-46-/first | (have o1 := gz_sh q87; omega) | (simp only [gz_hd] at *; omega)), by (/-47-/first | (have o1 := gz_sh q87; omega) | (simp only [gz_hd] at *; omega))⟩ (fun c105 => ?_) (fun c105 => ?_)
        · refine gv_run 7 true hD (pcₚ := 52) (lvₚ := [(2, .inl z87), (0, .inr (.inr (some 0))), (1, .inl (I 0 167))]) (stₚ := [.inl (I 0 167), .inr (.inr (some 41)), .inr (.inr (some 8)), .inr (.inr (some 0)), .inr (.inr (some 0))]) (hₚ := gr_h I88 J89) (C := (((((((True ∧ True) ∧ True) ∧ True) ∧ True) ∧ True) ∧ True) ∧ True)) rfl ⟨⟨⟨⟨⟨⟨⟨trivial, trivial⟩, trivial⟩, trivial⟩, trivial⟩, trivial⟩, trivial⟩, trivial⟩ ?_
          have f106 := gz_hi ((gr_b_41 hI88 (Int.toNat ((I 0 167)))))
          refine gv_run 1 true hD (pcₚ := 53) (lvₚ := [(2, .inl z87), (0, .inr (.inr (some 0))), (1, .inl (I 0 167))]) (stₚ := [.inl (I88 41 (Int.toNat ((I 0 167)))), .inr (.inr (some 8)), .inr (.inr (some 0)), .inr (.inr (some 0))]) (hₚ := gr_h I88 J89) (C := (True ∧ (0 ≤ (I 0 167) ∧ (I 0 167) < ((3072 : Nat) : Int)))) rfl ⟨trivial, ⟨by (/-48-/first | (have o1 := gz_sh f16; have o2 := gz_sh t20; omega) | (simp only [gz_hd] at *; omega)), by (/-49-/first | (have o1 := gz_sh f16; have o2 := gz_sh t20; omega) | (simp only [gz_hd] at *; omega))⟩⟩ ?_
          have f107 := gz_hi ((gr_b_8 hI88 (Int.toNat ((I88 41 (Int.toNat ((I 0 167))))))))
          refine gv_run 1 true hD (pcₚ := 54) (lvₚ := [(2, .inl z87), (0, .inr (.inr (some 0))), (1, .inl (I 0 167))]) (stₚ := [.inl (I88 8 (Int.toNat ((I88 41 (Int.toNat ((I 0 167))))))), .inr (.inr (some 0)), .inr (.inr (some 0))]) (hₚ := gr_h I88 J89) (C := (True ∧ (0 ≤ ((I88 41 (Int.toNat ((I 0 167))))) ∧ ((I88 41 (Int.toNat ((I 0 167))))) < ((96 : Nat) : Int)))) rfl ⟨trivial, ⟨by (/-50-/first | (have o1 := gz_sh f106; omega) | (simp only [gz_hd] at *; omega)), by (/-51-/first | (have o1 := gz_sh f106; omega) | (simp only [gz_hd] at *; omega))⟩⟩ ?_
          refine gv_run 5 true hD (pcₚ := 63) (lvₚ := [(2, .inl z87), (0, .inr (.inr (some 0))), (1, .inl (I 0 167))]) (stₚ := [.inl z87, .inl (I88 0 169), .inl (I88 0 168), .inl (I88 8 (Int.toNat ((I88 41 (Int.toNat ((I 0 167))))))), .inr (.inr (some 0)), .inr (.inr (some 0))]) (hₚ := gr_h I88 J89) (C := (((((True ∧ True) ∧ True) ∧ True) ∧ True) ∧ True)) rfl ⟨⟨⟨⟨⟨trivial, trivial⟩, trivial⟩, trivial⟩, trivial⟩, trivial⟩ ?_
          obtain ⟨r110, h110, E110, P110⟩ := r_nodeOf_h (ws0 := ws0) (tb := tb) hws htb ext t I88 J89 hI88 ((I88 8 (Int.toNat ((I88 41 (Int.toNat ((I 0 167)))))))) (I88 0 168) (I88 0 169) z87 ⟨by (/-52-/first | (have o1 := gz_sh f107; omega) | (simp only [gz_hd] at *; omega)), by (/-53-/first | (have o1 := gz_sh f107; omega) | (simp only [gz_hd] at *; omega))⟩ ⟨by (/-54-/first | (have o1 := gz_sh f14; have o2 := gz_sh t93; omega) | (simp only [gz_hd] at *; omega)), by (/-55-/first | (have o1 := gz_sh f14; have o2 := gz_sh t93; omega) | (simp only [gz_hd] at *; omega))⟩ ⟨by (/-56-/first | (have o1 := gz_sh f15; have o2 := gz_sh t94; omega) | (simp only [gz_hd] at *; omega)), by (/-57-/first | (have o1 := gz_sh f15; have o2 := gz_sh t94; omega) | (simp only [gz_hd] at *; omega))⟩ ⟨by (/-58-/first | omega | (simp only [gz_hd] at *; omega)), by (/-59-/first | (have o1 := gz_sh q87; omega) | (simp only [gz_hd] at *; omega))⟩ (by rw [show ((I88 0 169 - I88 0 168) * 25 + I88 0 168) * 32 + I88 8 (Int.toNat (I88 41 (Int.toNat (I 0 167)))) = o from by rw [FI88 8 _ rfl, FI88 41 _ rfl, FI88 0 169 rfl, FI88 0 168 rfl]; (/-60-/first | omega | (simp only [gz_hd] at *; omega))]; exact (gr_FO_fr e1_10 hI8 (fun k => g87 87 k rfl) (fun k => g87 88 k rfl) (fun k => g87 104 k rfl) (fun k => g87 90 k rfl) (fun k => g87 93 k rfl) (fun k => g87 92 k rfl) (fun k => g87 94 k rfl) (fun k => g87 95 k rfl) (fun k => g87 97 k rfl) (fun k => g87 98 k rfl) (fun k => g87 19 k rfl) (fun k => g87 18 k rfl) (fun k => g87 41 k rfl) (fun k => g87 6 k rfl) (by (/-61-/first | (have o1 := gz_sh t90; omega) | (simp only [gz_hd] at *; omega))) (by (/-62-/first | (have o1 := gz_sh t92; omega) | (simp only [gz_hd] at *; omega))) (by (/-63-/first | (have o1 := gz_sh t91; omega) | (simp only [gz_hd] at *; omega))))) (by (/-64-/first | (have o1 := gz_sh t18; have o2 := gz_sh t21; have o3 := gz_sh t91; have o4 := gz_sh t93; omega) | (simp only [gz_hd] at *; omega))) (by (/-65-/first | (have o1 := gz_sh t19; have o2 := gz_sh t21; have o3 := gz_sh t91; have o4 := gz_sh t94; omega) | (simp only [gz_hd] at *; omega))) (by (/-66-/first | (have o1 := gz_sh t18; have o2 := gz_sh t19; have o3 := gz_sh t93; have o4 := gz_sh t94; omega) | (simp only [gz_hd] at *; omega)))
          obtain ⟨I111, J112, rfl, hI111, g110, k110, ⟨z110, rfl, q110⟩⟩ := P110
          replace q110 := gz_hi q110
          have FI111 := gr_frt FI88 g110 rfl rfl
          have FJ112 := gr_fjt FJ89 k110 rfl rfl
          have t117 := gz_hi (g110 0 167 rfl)
          have t118 := gz_hi (g110 0 170 rfl)
          have t119 := gz_hi (g110 19 (Int.toNat t) rfl)
          refine gv_callV hD rfl (As := [.inl (I88 8 (Int.toNat ((I88 41 (Int.toNat ((I 0 167))))))), .inl (I88 0 168), .inl (I88 0 169), .inl z87]) (st := [.inr (.inr (some 0))]) rfl (by decide) rfl rfl (gr_lV hws rfl) (Nat.le_of_ble_eq_true rfl) (gz_Ev_mono (d := 2) (by decide) E110) ?_
          show gv_X _ _ (66, [(2, .inl z87), (0, .inr (.inr (some 0))), (1, .inl (I 0 167))], [.inl z110, .inr (.inr (some 0))], gr_sh ++ ext, gr_h I111 J112)
          have f127 := gz_hi ((gr_b_41 hI111 (Int.toNat ((I 0 167)))))
          refine gv_run 4 true hD (pcₚ := 72) (lvₚ := [(2, .inl z87), (0, .inr (.inr (some 0))), (1, .inl (I 0 167))]) (stₚ := [.inl (I111 41 (Int.toNat ((I 0 167)))), .inl z110, .inr (.inr (some 0))]) (hₚ := gr_h I111 J112) (C := ((((True ∧ True) ∧ True) ∧ True) ∧ (0 ≤ (I 0 167) ∧ (I 0 167) < ((3072 : Nat) : Int)))) rfl ⟨⟨⟨⟨trivial, trivial⟩, trivial⟩, trivial⟩, ⟨by (/-67-/first | (have o1 := gz_sh f16; have o2 := gz_sh t20; omega) | (simp only [gz_hd] at *; omega)), by (/-68-/first | (have o1 := gz_sh f16; have o2 := gz_sh t20; omega) | (simp only [gz_hd] at *; omega))⟩⟩ ?_
          refine gv_run 3 true hD (pcₚ := 77) (lvₚ := [(2, .inl z87), (0, .inr (.inr (some 0))), (1, .inl (I 0 167))]) (stₚ := [.inl (I 0 167), .inl (I111 0 170), .inl (I111 41 (Int.toNat ((I 0 167)))), .inl z110, .inr (.inr (some 0))]) (hₚ := gr_h I111 J112) (C := (((True ∧ True) ∧ True) ∧ True)) rfl ⟨⟨⟨trivial, trivial⟩, trivial⟩, trivial⟩ ?_
          obtain ⟨r129, h129, E129, P129⟩ := r_wayOf_f (ws0 := ws0) (tb := tb) hws htb ext t o I111 J112 hI111 z110 ((I111 41 (Int.toNat ((I 0 167))))) (I111 0 170) (I 0 167) ⟨by (/-69-/first | (have o1 := gz_sh q110; omega) | (simp only [gz_hd] at *; omega)), by (/-70-/first | (have o1 := gz_sh q110; omega) | (simp only [gz_hd] at *; omega))⟩ ⟨by (/-71-/first | (have o1 := gz_sh f127; omega) | (simp only [gz_hd] at *; omega)), by (/-72-/first | (have o1 := gz_sh f127; omega) | (simp only [gz_hd] at *; omega))⟩ ⟨by (/-73-/first | (have o1 := gz_sh f7; have o2 := gz_sh t118; have o3 := gz_sh t22; have o4 := gz_sh t96; omega) | (simp only [gz_hd] at *; omega)), by (/-74-/first | (have o1 := gz_sh f7; have o2 := gz_sh t118; have o3 := gz_sh t22; have o4 := gz_sh t96; omega) | (simp only [gz_hd] at *; omega))⟩ ⟨by (/-75-/first | (have o1 := gz_sh f16; have o2 := gz_sh t20; omega) | (simp only [gz_hd] at *; omega)), by (/-76-/first | (have o1 := gz_sh f16; have o2 := gz_sh t20; omega) | (simp only [gz_hd] at *; omega))⟩ (by (/-77-/first | (have o1 := gz_sh q110; omega) | (simp only [gz_hd] at *; omega))) (by have u9 := (gz_sh q110).2.2.1; rw [show ((I88 0 169 - I88 0 168) * 25 + I88 0 168) * 32 + I88 8 (Int.toNat (I88 41 (Int.toNat (I 0 167)))) = o from by rw [FI88 8 _ rfl, FI88 41 _ rfl, FI88 0 169 rfl, FI88 0 168 rfl]; (/-78-/first | omega | (simp only [gz_hd] at *; omega))] at u9; exact u9)
          obtain ⟨I130, J131, rfl, hI130, g129, k129, ⟨z129, rfl, q129⟩⟩ := P129
          replace q129 := gz_hi q129
          have FI130 := gr_frt FI111 g129 rfl rfl
          have FJ131 := gr_fjt FJ112 k129 rfl rfl
          have t136 := gz_hi (g129 0 167 rfl)
          have t138 := gz_hi (g129 19 (Int.toNat t) rfl)
          refine gv_callV hD rfl (As := [.inl z110, .inl (I111 41 (Int.toNat ((I 0 167)))), .inl (I111 0 170), .inl (I 0 167)]) (st := []) rfl (by decide) rfl rfl (gr_lV hws rfl) (Nat.le_of_ble_eq_true rfl) (gz_Ev_mono (d := 1) (by decide) E129) ?_
          show gv_X _ _ (80, [(2, .inl z87), (0, .inr (.inr (some 0))), (1, .inl (I 0 167))], [.inl z129], gr_sh ++ ext, gr_h I130 J131)
          refine gv_run 2 true hD (pcₚ := 82) (lvₚ := [(3, .inl z129), (2, .inl z87), (0, .inr (.inr (some 0))), (1, .inl (I 0 167))]) (stₚ := [.inl z129]) (hₚ := gr_h I130 J131) (C := ((True ∧ True) ∧ True)) rfl ⟨⟨trivial, trivial⟩, trivial⟩ ?_
          refine gv_if_ge (t := 86) hD rfl rfl ⟨by (/-79-/first | (have o1 := gz_sh q129; omega) | (simp only [gz_hd] at *; omega)), by (/-80-/first | (have o1 := gz_sh q129; omega) | (simp only [gz_hd] at *; omega))⟩ (fun c146 => ?_) (fun c146 => ?_)
          · refine gv_run 4 true hD (pcₚ := 92) (lvₚ := [(5, .inl 0), (4, .inl 0), (3, .inl z129), (2, .inl z87), (0, .inr (.inr (some 0))), (1, .inl (I 0 167))]) (stₚ := []) (hₚ := gr_h I130 J131) (C := ((((True ∧ True) ∧ True) ∧ True) ∧ True)) rfl ⟨⟨⟨⟨trivial, trivial⟩, trivial⟩, trivial⟩, trivial⟩ ?_
            refine gv_pick [4, 5, 2, 1, 0] rfl ?_
            exact L92 _ I130 J131 z129 0 0 (Nat.lt_succ_self _) hI130 FI130 FJ131 (by (/-81-/first | (and_intros; (have o1 := gz_sh f16; have o2 := gz_sh t20; omega); (have o1 := gz_sh f16; have o2 := gz_sh t20; omega); (omega); (have o1 := gz_sh q129; omega); (omega); (omega); (omega); (omega)) | (simp only [gz_hd] at *; omega))) (gr_WL_in (I1 := I111) (gz_sh q129).2.2.1 (gr_XT_tr (gr_XT_tr (gr_XT_tr e2_10 (gr_XT_sm (fun k => g87 87 k rfl) (fun k => g87 88 k rfl) (fun k => g87 104 k rfl) (fun k => g87 94 k rfl) (fun k => g87 95 k rfl) (fun k => g87 97 k rfl) (fun k => g87 98 k rfl) (by (/-82-/first | (have o1 := gz_sh t90; omega) | (simp only [gz_hd] at *; omega))) (by (/-83-/first | (have o1 := gz_sh t92; omega) | (simp only [gz_hd] at *; omega))))) (gz_sh q110).2.2.2.2.2.2.1) (gz_sh q129).2.2.2.1) (gr_GR_F x0 FI130) (by rw [FI130 42 _ rfl, FI130 0 169 rfl]; exact gr_IT_x x2 (gr_XT_tr (gr_XT_tr (gr_XT_tr e2_10 (gr_XT_sm (fun k => g87 87 k rfl) (fun k => g87 88 k rfl) (fun k => g87 104 k rfl) (fun k => g87 94 k rfl) (fun k => g87 95 k rfl) (fun k => g87 97 k rfl) (fun k => g87 98 k rfl) (by (/-84-/first | (have o1 := gz_sh t90; omega) | (simp only [gz_hd] at *; omega))) (by (/-85-/first | (have o1 := gz_sh t92; omega) | (simp only [gz_hd] at *; omega))))) (gz_sh q110).2.2.2.2.2.2.1) (gz_sh q129).2.2.2.1) (fun k _ => FI130 103 k rfl) (fun k => FI130 43 k rfl) (fun k => FI130 41 k rfl) (fun k => FI130 7 k rfl) (FI130 0 168 rfl) (FI130 0 167 rfl)) (by (/-86-/first | (have o1 := gz_sh e4_10; have o2 := gz_sh q110; have o3 := gz_sh t92; omega) | (simp only [gz_hd] at *; omega))) (by (/-87-/first | (have o1 := gz_sh q129; omega) | (simp only [gz_hd] at *; omega))) (by (/-88-/first | omega | (simp only [gz_hd] at *; omega))) (by (/-89-/first | (have o1 := gz_sh q129; omega) | (simp only [gz_hd] at *; omega))) (by (/-90-/first | (have o1 := gz_sh t117; have o2 := gz_sh t136; have o3 := gz_sh t20; have o4 := gz_sh t95; omega) | (simp only [gz_hd] at *; omega))) ⟨by (/-91-/first | omega | (simp only [gz_hd] at *; omega)), by (/-92-/first | omega | (simp only [gz_hd] at *; omega))⟩ (by (/-93-/first | omega | (simp only [gz_hd] at *; omega))) (by (/-94-/first | (have o1 := gz_sh t119; have o2 := gz_sh t138; have o3 := gz_sh t23; have o4 := gz_sh t97; omega) | (simp only [gz_hd] at *; omega))) (by rw [FI130 41 _ rfl]; have u9 := (gz_sh q129).2.2.2.2.2.2.2; rw [FI111 41 _ rfl] at u9; exact u9) (by rw [FI130 8 _ rfl, FI130 41 _ rfl, FI130 0 168 rfl, FI130 0 169 rfl]; have u9 := gr_T3_x (gz_sh q110).2.2.2.2.2.2.2 (gz_sh q129).2.2.2.1 (by (/-95-/first | (have o1 := gz_sh q110; omega) | (simp only [gz_hd] at *; omega))); rw [FI88 8 _ rfl, FI88 41 _ rfl, FI88 0 168 rfl, FI88 0 169 rfl] at u9; exact u9))
          · exact gv_vret hD rfl ⟨I130, J131, rfl, hI130, FI130, FJ131, ⟨rfl, (by have u9 := (gz_sh q129).2.2.1; unfold gr_FO; rw [(gz_sh q129).2.2.2.2.2.1 (by (/-96-/first | omega | (simp only [gz_hd] at *; omega)))]; exact u9), (gr_XT_tr (gr_XT_tr (gr_XT_tr e2_10 (gr_XT_sm (fun k => g87 87 k rfl) (fun k => g87 88 k rfl) (fun k => g87 104 k rfl) (fun k => g87 94 k rfl) (fun k => g87 95 k rfl) (fun k => g87 97 k rfl) (fun k => g87 98 k rfl) (by (/-97-/first | (have o1 := gz_sh t90; omega) | (simp only [gz_hd] at *; omega))) (by (/-98-/first | (have o1 := gz_sh t92; omega) | (simp only [gz_hd] at *; omega))))) (gz_sh q110).2.2.2.2.2.2.1) (gz_sh q129).2.2.2.1)⟩⟩
        · exact gv_vret hD rfl ⟨I88, J89, rfl, hI88, FI88, FJ89, ⟨rfl, (gr_FO_fr e1_10 hI8 (fun k => g87 87 k rfl) (fun k => g87 88 k rfl) (fun k => g87 104 k rfl) (fun k => g87 90 k rfl) (fun k => g87 93 k rfl) (fun k => g87 92 k rfl) (fun k => g87 94 k rfl) (fun k => g87 95 k rfl) (fun k => g87 97 k rfl) (fun k => g87 98 k rfl) (fun k => g87 19 k rfl) (fun k => g87 18 k rfl) (fun k => g87 41 k rfl) (fun k => g87 6 k rfl) (by (/-99-/first | (have o1 := gz_sh t90; omega) | (simp only [gz_hd] at *; omega))) (by (/-100-/first | (have o1 := gz_sh t92; omega) | (simp only [gz_hd] at *; omega))) (by (/-101-/first | (have o1 := gz_sh t91; omega) | (simp only [gz_hd] at *; omega)))), (gr_XT_tr e2_10 (gr_XT_sm (fun k => g87 87 k rfl) (fun k => g87 88 k rfl) (fun k => g87 104 k rfl) (fun k => g87 94 k rfl) (fun k => g87 95 k rfl) (fun k => g87 97 k rfl) (fun k => g87 98 k rfl) (by (/-102-/first | (have o1 := gz_sh t90; omega) | (simp only [gz_hd] at *; omega))) (by (/-103-/first | (have o1 := gz_sh t92; omega) | (simp only [gz_hd] at *; omega)))))⟩⟩
      · have f147 := gz_hi ((gr_b_100 hI8 (Int.toNat v2_10)))
        refine gv_run 7 true hD (pcₚ := 23) (lvₚ := [(0, .inr (.inr (some 0))), (1, .inl (I 0 167)), (2, .inl v2_10)]) (stₚ := [.inl (I8 100 (Int.toNat v2_10)), .inl v2_10, .inr (.inr (some 101))]) (hₚ := gr_h I8 J9) (C := (((((((True ∧ True) ∧ True) ∧ True) ∧ True) ∧ True) ∧ True) ∧ (0 ≤ v2_10 ∧ v2_10 < ((4 : Nat) : Int)))) rfl ⟨⟨⟨⟨⟨⟨⟨trivial, trivial⟩, trivial⟩, trivial⟩, trivial⟩, trivial⟩, trivial⟩, ⟨by (/-104-/first | (have o1 := gz_sh hv2_10; omega) | (simp only [gz_hd] at *; omega)), by (/-105-/first | omega | (simp only [gz_hd] at *; omega))⟩⟩ ?_
        refine gv_run 1 true hD (pcₚ := 24) (lvₚ := [(0, .inr (.inr (some 0))), (1, .inl (I 0 167)), (2, .inl v2_10)]) (stₚ := []) (hₚ := gz_up (gr_h I8 J9) 101 (Int.toNat v2_10) (.inl ((I8 100 (Int.toNat v2_10))))) (C := (True ∧ (0 ≤ v2_10 ∧ v2_10 < ((4 : Nat) : Int)))) rfl ⟨trivial, ⟨by (/-106-/first | (have o1 := gz_sh hv2_10; omega) | (simp only [gz_hd] at *; omega)), by (/-107-/first | omega | (simp only [gz_hd] at *; omega))⟩⟩ ?_
        refine gr_st hI8 FI8 rfl rfl ⟨⟨by show 0 ≤ _; (/-108-/first | (have o1 := gz_sh f147; omega) | (simp only [gz_hd] at *; omega)), by show _ ≤ 16777215; (/-109-/first | (have o1 := gz_sh f147; omega) | (simp only [gz_hd] at *; omega))⟩, trivial⟩ (fun I148 hI148 FI148 q149 p149 => ?_)
        have t150 := gz_hi (p149 0 157 (fun q => absurd q.1 (by first | exact gz_ne rfl | decide)))
        have t151 := gz_hi (p149 0 143 (fun q => absurd q.1 (by first | exact gz_ne rfl | decide)))
        have t152 := gz_hi (p149 0 158 (fun q => absurd q.1 (by first | exact gz_ne rfl | decide)))
        have t155 := gz_hi (p149 0 167 (fun q => absurd q.1 (by first | exact gz_ne rfl | decide)))
        refine gv_run 2 true hD (pcₚ := 7) (lvₚ := [(2, .inl (v2_10 + 1)), (0, .inr (.inr (some 0))), (1, .inl (I 0 167))]) (stₚ := []) (hₚ := gr_h I148 J9) (C := ((True ∧ True) ∧ True)) rfl ⟨⟨trivial, trivial⟩, trivial⟩ ?_
        refine gv_pick [1, 2, 0] rfl ?_
        exact ih7 I148 J9 (I 0 167) (v2_10 + 1) (by (/-110-/first | (have o1 := gz_sh hv2_10; omega) | (simp only [gz_hd] at *; omega))) hI148 FI148 FJ9 (by (/-111-/first | (and_intros; (have o1 := gz_sh f16; have o2 := gz_sh t20; omega); (have o1 := gz_sh f16; have o2 := gz_sh t20; omega); (have o1 := gz_sh hv2_10; omega); (omega); (omega); (have o1 := gz_sh e3_10; have o2 := gz_sh t150; omega); (have o1 := gz_sh e4_10; have o2 := gz_sh t152; omega)) | (simp only [gz_hd] at *; omega))) (gr_FO_fr e1_10 hI8 (fun k => p149 87 k (fun q => absurd q.1 (by first | exact gz_ne rfl | decide))) (fun k => p149 88 k (fun q => absurd q.1 (by first | exact gz_ne rfl | decide))) (fun k => p149 104 k (fun q => absurd q.1 (by first | exact gz_ne rfl | decide))) (fun k => p149 90 k (fun q => absurd q.1 (by first | exact gz_ne rfl | decide))) (fun k => p149 93 k (fun q => absurd q.1 (by first | exact gz_ne rfl | decide))) (fun k => p149 92 k (fun q => absurd q.1 (by first | exact gz_ne rfl | decide))) (fun k => p149 94 k (fun q => absurd q.1 (by first | exact gz_ne rfl | decide))) (fun k => p149 95 k (fun q => absurd q.1 (by first | exact gz_ne rfl | decide))) (fun k => p149 97 k (fun q => absurd q.1 (by first | exact gz_ne rfl | decide))) (fun k => p149 98 k (fun q => absurd q.1 (by first | exact gz_ne rfl | decide))) (fun k => p149 19 k (fun q => absurd q.1 (by first | exact gz_ne rfl | decide))) (fun k => p149 18 k (fun q => absurd q.1 (by first | exact gz_ne rfl | decide))) (fun k => p149 41 k (fun q => absurd q.1 (by first | exact gz_ne rfl | decide))) (fun k => p149 6 k (fun q => absurd q.1 (by first | exact gz_ne rfl | decide))) (by (/-112-/first | (have o1 := gz_sh t150; omega) | (simp only [gz_hd] at *; omega))) (by (/-113-/first | (have o1 := gz_sh t152; omega) | (simp only [gz_hd] at *; omega))) (by (/-114-/first | (have o1 := gz_sh t151; omega) | (simp only [gz_hd] at *; omega)))) (gr_XT_tr e2_10 (gr_XT_sm (fun k => p149 87 k (fun q => absurd q.1 (by first | exact gz_ne rfl | decide))) (fun k => p149 88 k (fun q => absurd q.1 (by first | exact gz_ne rfl | decide))) (fun k => p149 104 k (fun q => absurd q.1 (by first | exact gz_ne rfl | decide))) (fun k => p149 94 k (fun q => absurd q.1 (by first | exact gz_ne rfl | decide))) (fun k => p149 95 k (fun q => absurd q.1 (by first | exact gz_ne rfl | decide))) (fun k => p149 97 k (fun q => absurd q.1 (by first | exact gz_ne rfl | decide))) (fun k => p149 98 k (fun q => absurd q.1 (by first | exact gz_ne rfl | decide))) (by (/-115-/first | (have o1 := gz_sh t150; omega) | (simp only [gz_hd] at *; omega))) (by (/-116-/first | (have o1 := gz_sh t152; omega) | (simp only [gz_hd] at *; omega)))))
  refine gv_run 5 true hD (pcₚ := 7) (lvₚ := [(2, .inl 0), (1, .inl (I 0 167)), (0, .inr (.inr (some 0)))]) (stₚ := []) (hₚ := gr_h I J) (C := (((((True ∧ True) ∧ True) ∧ True) ∧ True) ∧ True)) rfl ⟨⟨⟨⟨⟨trivial, trivial⟩, trivial⟩, trivial⟩, trivial⟩, trivial⟩ ?_
  refine gv_pick [2, 1, 0] rfl ?_
  exact L7 _ I J (I 0 167) 0 (Nat.lt_succ_self _) hI FI FJ (by (/-117-/first | (and_intros; (have o1 := gz_sh f6; omega); (have o1 := gz_sh f6; omega); (omega); (omega); (omega); (omega); (omega)) | (simp only [gz_hd] at *; omega))) x1 (gr_XT_rf I)
