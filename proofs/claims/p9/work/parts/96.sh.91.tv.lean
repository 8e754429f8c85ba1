theorem gr_CD_tk {p n : Int} {I Iₚ : gr_I} (h : gr_PL I) (hp : 0 ≤ p ∧ p ≤ 7) (hn : n = I 115 (Int.toNat p)) (h0 : ¬ n = 0) (t : gr_TV p n I Iₚ) (h2 : ∀ k, Iₚ 6 k = I 6 k) (h3 : Iₚ 0 3 = I 0 3) : gr_CD (Iₚ 113) n Iₚ ∧ 1 ≤ n ∧ n ≤ 60 := by
  rcases h (Int.toNat p) (by omega) (by omega) with u | u
  · omega
  · rw [← hn] at u
    exact ⟨gr_CD_x u.2 t (fun f _ => h2 f) (by omega), by omega, by omega⟩
set_option maxHeartbeats 8000000 in
set_option maxRecDepth 100000 in
theorem r_mean_ {ws0 : List Cond} {tb : String → gz_T} (hws : ∀ w ∈ gr_ws, w ∈ ws0) (htb : tb RX13 = gr_T) (ext : gz_Sh) (I : gr_I) (J : gr_J) (hI : gr_Inv I) (a1 : Int) (ha1 : (-2147483648) ≤ a1 ∧ a1 ≤ 2147483647) (KPL_I : gr_PL I) (KTM_I : gr_TM I) (KTO_I : gr_TO I) (KFM_I : gr_FM I) : ∃ r hₚ, gz_Ev ws0 tb 906 (yX13_mean_, cX13_mean_, 3, (some .int)) [.inr (.inr (some 0)), .inl a1] (gr_sh ++ ext) (gr_h I J) r (gr_sh ++ ext) hₚ 0 0 ∧ (∃ (Iₚ : gr_I) (Jₚ : gr_J), hₚ = gr_h Iₚ Jₚ ∧ gr_Inv Iₚ ∧ gr_fr [0, 70, 188, 216, 217, 218] [58, 113, 122, 134, 135, 136, 137] I Iₚ ∧ gr_fj [0, 70, 188, 216, 217, 218] [58, 113, 122, 134, 135, 136, 137] J Jₚ ∧ gr_PL Iₚ ∧ gr_TM Iₚ ∧ gr_TO Iₚ ∧ gr_FM Iₚ ∧ (∃ z : Int, r = some (.inl z) ∧ (-4) ≤ z ∧ z ≤ 1000)) := by
  have FI : gr_fr [0, 70, 188, 216, 217, 218] [58, 113, 122, 134, 135, 136, 137] I I := fun _ _ _ => rfl
  have FJ : gr_fj [0, 70, 188, 216, 217, 218] [58, 113, 122, 134, 135, 136, 137] J J := fun _ _ _ => rfl
  have hD : gv_D (gr_E ws0 tb 905 (yX13_mean_, cX13_mean_, 3, (some .int)) kX13_mean_) := gq_of oX13_mean_
  refine gr_ev (d := 905) (l := kX13_mean_) (Po := fun r hₚ => (∃ (Iₚ : gr_I) (Jₚ : gr_J), hₚ = gr_h Iₚ Jₚ ∧ gr_Inv Iₚ ∧ gr_fr [0, 70, 188, 216, 217, 218] [58, 113, 122, 134, 135, 136, 137] I Iₚ ∧ gr_fj [0, 70, 188, 216, 217, 218] [58, 113, 122, 134, 135, 136, 137] J Jₚ ∧ gr_PL Iₚ ∧ gr_TM Iₚ ∧ gr_TO Iₚ ∧ gr_FM Iₚ ∧ (∃ z : Int, r = some (.inl z) ∧ (-4) ≤ z ∧ z ≤ 1000))) htb rfl (Nat.le_of_ble_eq_true rfl) ?_
  refine gv_run 2 true hD (pcₚ := 2) (lvₚ := [(0, .inr (.inr (some 0))), (1, .inl a1)]) (stₚ := [.inl a1, .inr (.inr (some 0))]) (hₚ := gr_h I J) (C := ((True ∧ True) ∧ True)) rfl ⟨⟨trivial, trivial⟩, trivial⟩ ?_
  obtain ⟨r5, h5, E5, P5⟩ := r_noPlace (ws0 := ws0) (tb := tb) hws htb ext I J hI a1 ⟨by (/-0-/first | omega | (simp only [gz_hd] at *; omega)), by (/-1-/first | omega | (simp only [gz_hd] at *; omega))⟩ 
  obtain ⟨I6, J7, rfl, hI6, g5, k5, ⟨z5, rfl, q5⟩⟩ := P5
  replace q5 := gz_hi q5
  have FI6 := gr_frt FI g5 rfl rfl
  have FJ7 := gr_fjt FJ k5 rfl rfl
  have KPL_I6 := gr_PL_fr KPL_I (fun k => g5 114 k rfl) (fun k => g5 115 k rfl) (fun k => g5 6 k rfl) (g5 0 3 rfl)
  have KTM_I6 := gr_TM_fr KTM_I (fun k => g5 52 k rfl) (fun k => g5 53 k rfl) (fun k => g5 54 k rfl) (g5 0 64 rfl)
  have KTO_I6 := gr_TO_fr KTO_I (fun k => g5 52 k rfl) (fun k => g5 53 k rfl) (fun k => g5 54 k rfl) (fun k => g5 55 k rfl) (fun k => g5 6 k rfl) (g5 0 64 rfl) (g5 0 3 rfl)
  have KFM_I6 := gr_FM_fr KFM_I (fun k => g5 10 k rfl) (fun k => g5 55 k rfl) (fun k => g5 52 k rfl) (fun k => g5 53 k rfl) (fun k => g5 54 k rfl) (g5 0 64 rfl) (g5 0 3 rfl)
  refine gv_callV hD rfl (As := [.inl a1]) (st := []) rfl (by decide) rfl rfl (gr_lV hws rfl) (Nat.le_of_ble_eq_true rfl) (gz_Ev_mono (d := 1) (by decide) E5) ?_
  show gv_X _ _ (5, [(0, .inr (.inr (some 0))), (1, .inl a1)], [.inl z5], gr_sh ++ ext, gr_h I6 J7)
  refine gv_if_eq (t := 10) hD rfl rfl ⟨by (/-2-/first | (have o1 := gz_sh q5; omega) | (simp only [gz_hd] at *; omega)), by (/-3-/first | (have o1 := gz_sh q5; omega) | (simp only [gz_hd] at *; omega))⟩ (fun c16 => ?_) (fun c16 => ?_)
  · refine gv_run 3 true hD (pcₚ := 15) (lvₚ := [(0, .inr (.inr (some 0))), (1, .inl a1)]) (stₚ := []) (hₚ := gz_up (gr_h I6 J7) 0 70 (.inl 0)) (C := (((True ∧ True) ∧ True) ∧ True)) rfl ⟨⟨⟨trivial, trivial⟩, trivial⟩, trivial⟩ ?_
    refine gr_st hI6 FI6 rfl rfl ⟨⟨by show 0 ≤ _; (/-4-/first | omega | (simp only [gz_hd] at *; omega)), by show _ ≤ 1000; (/-5-/first | omega | (simp only [gz_hd] at *; omega))⟩, trivial⟩ (fun I17 hI17 FI17 q18 p18 => ?_)
    have KPL_I17 := gr_PL_fr KPL_I6 (fun k => p18 114 k (fun q => absurd q.1 (by first | exact gz_ne rfl | decide))) (fun k => p18 115 k (fun q => absurd q.1 (by first | exact gz_ne rfl | decide))) (fun k => p18 6 k (fun q => absurd q.1 (by first | exact gz_ne rfl | decide))) (p18 0 3 (by decide))
    have KTM_I17 := gr_TM_fr KTM_I6 (fun k => p18 52 k (fun q => absurd q.1 (by first | exact gz_ne rfl | decide))) (fun k => p18 53 k (fun q => absurd q.1 (by first | exact gz_ne rfl | decide))) (fun k => p18 54 k (fun q => absurd q.1 (by first | exact gz_ne rfl | decide))) (p18 0 64 (by decide))
    have KTO_I17 := gr_TO_fr KTO_I6 (fun k => p18 52 k (fun q => absurd q.1 (by first | exact gz_ne rfl | decide))) (fun k => p18 53 k (fun q => absurd q.1 (by first | exact gz_ne rfl | decide))) (fun k => p18 54 k (fun q => absurd q.1 (by first | exact gz_ne rfl | decide))) (fun k => p18 55 k (fun q => absurd q.1 (by first | exact gz_ne rfl | decide))) (fun k => p18 6 k (fun q => absurd q.1 (by first | exact gz_ne rfl | decide))) (p18 0 64 (by decide)) (p18 0 3 (by decide))
    have KFM_I17 := gr_FM_fr KFM_I6 (fun k => p18 10 k (fun q => absurd q.1 (by first | exact gz_ne rfl | decide))) (fun k => p18 55 k (fun q => absurd q.1 (by first | exact gz_ne rfl | decide))) (fun k => p18 52 k (fun q => absurd q.1 (by first | exact gz_ne rfl | decide))) (fun k => p18 53 k (fun q => absurd q.1 (by first | exact gz_ne rfl | decide))) (fun k => p18 54 k (fun q => absurd q.1 (by first | exact gz_ne rfl | decide))) (p18 0 64 (by decide)) (p18 0 3 (by decide))
    refine gv_run 2 true hD (pcₚ := 17) (lvₚ := [(0, .inr (.inr (some 0))), (1, .inl a1)]) (stₚ := [.inl a1, .inr (.inr (some 0))]) (hₚ := gr_h I17 J7) (C := ((True ∧ True) ∧ True)) rfl ⟨⟨trivial, trivial⟩, trivial⟩ ?_
    obtain ⟨r26, h26, E26, P26⟩ := r_takes_w (ws0 := ws0) (tb := tb) hws htb ext I17 J7 hI17 a1 ⟨by (/-6-/first | (have o1 := gz_sh q5; omega) | (simp only [gz_hd] at *; omega)), by (/-7-/first | (have o1 := gz_sh q5; omega) | (simp only [gz_hd] at *; omega))⟩ 
    obtain ⟨I27, J28, rfl, hI27, g26, k26, ⟨z26, rfl, q26⟩⟩ := P26
    replace q26 := gz_hi q26
    have FI27 := gr_frt FI17 g26 rfl rfl
    have FJ28 := gr_fjt FJ7 k26 rfl rfl
    have KPL_I27 := gr_PL_fr KPL_I17 (fun k => g26 114 k rfl) (fun k => g26 115 k rfl) (fun k => g26 6 k rfl) (g26 0 3 rfl)
    have KTM_I27 := gr_TM_fr KTM_I17 (fun k => g26 52 k rfl) (fun k => g26 53 k rfl) (fun k => g26 54 k rfl) (g26 0 64 rfl)
    have KTO_I27 := gr_TO_fr KTO_I17 (fun k => g26 52 k rfl) (fun k => g26 53 k rfl) (fun k => g26 54 k rfl) (fun k => g26 55 k rfl) (fun k => g26 6 k rfl) (g26 0 64 rfl) (g26 0 3 rfl)
    have KFM_I27 := gr_FM_fr KFM_I17 (fun k => g26 10 k rfl) (fun k => g26 55 k rfl) (fun k => g26 52 k rfl) (fun k => g26 53 k rfl) (fun k => g26 54 k rfl) (g26 0 64 rfl) (g26 0 3 rfl)
    refine gv_callV hD rfl (As := [.inl a1]) (st := []) rfl (by decide) rfl rfl (gr_lV hws rfl) (Nat.le_of_ble_eq_true rfl) (gz_Ev_mono (d := 1) (by decide) E26) ?_
    show gv_X _ _ (20, [(0, .inr (.inr (some 0))), (1, .inl a1)], [.inl z26], gr_sh ++ ext, gr_h I27 J28)
    refine gv_if_ne (t := 26) hD rfl rfl ⟨by (/-8-/first | (have o1 := gz_sh q26; omega) | (simp only [gz_hd] at *; omega)), by (/-9-/first | (have o1 := gz_sh q26; omega) | (simp only [gz_hd] at *; omega))⟩ (fun c36 => ?_) (fun c36 => ?_)
    · refine gv_run 1 true hD (pcₚ := 27) (lvₚ := [(0, .inr (.inr (some 0))), (1, .inl a1)]) (stₚ := [.inr (.inr (some 0))]) (hₚ := gr_h I27 J28) (C := (True ∧ True)) rfl ⟨trivial, trivial⟩ ?_
      have t37 := gz_hi ((gr_CD_tk KPL_I17 (p := a1) (n := z26) ⟨by (/-10-/first | (have o1 := gz_sh q5; omega) | (simp only [gz_hd] at *; omega)), by (/-11-/first | (have o1 := gz_sh q5; omega) | (simp only [gz_hd] at *; omega))⟩ (by (/-12-/first | (have o1 := gz_sh q26; omega) | (simp only [gz_hd] at *; omega))) (by (/-13-/first | omega | (simp only [gz_hd] at *; omega))) (gz_sh q26).2.2.2.2 (fun k => g26 6 k rfl) (g26 0 3 rfl)).2)
      obtain ⟨r38, h38, E38, P38⟩ := r_means (ws0 := ws0) (tb := tb) hws htb ext I27 J28 hI27   (by rw [show I27 0 188 = z26 from by (/-14-/first | (have o1 := gz_sh q26; omega) | (simp only [gz_hd] at *; omega))]; exact (gr_CD_tk KPL_I17 (p := a1) (n := z26) ⟨by (/-15-/first | (have o1 := gz_sh q5; omega) | (simp only [gz_hd] at *; omega)), by (/-16-/first | (have o1 := gz_sh q5; omega) | (simp only [gz_hd] at *; omega))⟩ (by (/-17-/first | (have o1 := gz_sh q26; omega) | (simp only [gz_hd] at *; omega))) (by (/-18-/first | omega | (simp only [gz_hd] at *; omega))) (gz_sh q26).2.2.2.2 (fun k => g26 6 k rfl) (g26 0 3 rfl)).1) (by (/-19-/first | (have o1 := gz_sh q26; have o2 := gz_sh t37; omega) | (simp only [gz_hd] at *; omega))) (by (/-20-/first | (have o1 := gz_sh q26; omega) | (simp only [gz_hd] at *; omega))) KTM_I27 KTO_I27 KFM_I27
      obtain ⟨I39, J40, rfl, hI39, g38, k38, KTM_I39, KTO_I39, KFM_I39, ⟨z38, rfl, q38⟩⟩ := P38
      replace q38 := gz_hi q38
      have FI39 := gr_frt FI27 g38 rfl rfl
      have FJ40 := gr_fjt FJ28 k38 rfl rfl
      have KPL_I39 := gr_PL_fr KPL_I27 (fun k => g38 114 k rfl) (fun k => g38 115 k rfl) (fun k => g38 6 k rfl) (g38 0 3 rfl)
      refine gv_callV hD rfl (As := []) (st := []) rfl (by decide) rfl rfl (gr_lV hws rfl) (Nat.le_of_ble_eq_true rfl) (gz_Ev_mono (d := 905) (by decide) E38) ?_
      show gv_X _ _ (30, [(0, .inr (.inr (some 0))), (1, .inl a1)], [.inl z38], gr_sh ++ ext, gr_h I39 J40)
      refine gv_run 2 true hD (pcₚ := 32) (lvₚ := [(2, .inl z38), (0, .inr (.inr (some 0))), (1, .inl a1)]) (stₚ := [.inl z38]) (hₚ := gr_h I39 J40) (C := ((True ∧ True) ∧ True)) rfl ⟨⟨trivial, trivial⟩, trivial⟩ ?_
      refine gv_if_ge (t := 37) hD rfl rfl ⟨by (/-21-/first | (have o1 := gz_sh q38; omega) | (simp only [gz_hd] at *; omega)), by (/-22-/first | (have o1 := gz_sh q38; omega) | (simp only [gz_hd] at *; omega))⟩ (fun c49 => ?_) (fun c49 => ?_)
      · obtain ⟨a9, b9, S9, k9⟩ := Or.resolve_left ((gz_sh q38).2.2) (by (/-23-/first | (have o1 := gz_sh q38; omega) | (simp only [gz_hd] at *; omega)))
        refine gv_run 3 true hD (pcₚ := 40) (lvₚ := [(2, .inl z38), (0, .inr (.inr (some 0))), (1, .inl a1)]) (stₚ := [.inl 0, .inl z38, .inr (.inr (some 0))]) (hₚ := gr_h I39 J40) (C := (((True ∧ True) ∧ True) ∧ True)) rfl ⟨⟨⟨trivial, trivial⟩, trivial⟩, trivial⟩ ?_
        have t51 := gz_hi (gr_GH_b k9.1 (x := z38) ⟨by (/-24-/first | omega | (simp only [gz_hd] at *; omega)), by (/-25-/first | omega | (simp only [gz_hd] at *; omega))⟩)
        have t52 := gz_hi (k9.1.1)
        obtain ⟨r53, h53, E53, P53⟩ := r_outTerm (ws0 := ws0) (tb := tb) hws htb ext a9 b9 S9 301 I39 J40 hI39 z38 0 ⟨by (/-26-/first | omega | (simp only [gz_hd] at *; omega)), by (/-27-/first | (have o1 := gz_sh t52; omega) | (simp only [gz_hd] at *; omega))⟩ ⟨by (/-28-/first | omega | (simp only [gz_hd] at *; omega)), by (/-29-/first | omega | (simp only [gz_hd] at *; omega))⟩ k9.1 (by (/-30-/first | omega | (simp only [gz_hd] at *; omega))) (by (/-31-/first | omega | (simp only [gz_hd] at *; omega))) (by (/-32-/first | omega | (simp only [gz_hd] at *; omega))) (by (/-33-/first | (have o1 := gz_sh t51; omega) | (simp only [gz_hd] at *; omega))) (by (/-34-/first | (have o1 := gz_sh t51; omega) | (simp only [gz_hd] at *; omega)))
        obtain ⟨I54, J55, rfl, hI54, g53, k53, rfl⟩ := P53
        have FI54 := gr_frt FI39 g53 rfl rfl
        have FJ55 := gr_fjt FJ40 k53 rfl rfl
        have f60 := gz_hi ((gr_b_0_70 hI54))
        have KPL_I54 := gr_PL_fr KPL_I39 (fun k => g53 114 k rfl) (fun k => g53 115 k rfl) (fun k => g53 6 k rfl) (g53 0 3 rfl)
        have KTM_I54 := gr_TM_fr KTM_I39 (fun k => g53 52 k rfl) (fun k => g53 53 k rfl) (fun k => g53 54 k rfl) (g53 0 64 rfl)
        have KTO_I54 := gr_TO_fr KTO_I39 (fun k => g53 52 k rfl) (fun k => g53 53 k rfl) (fun k => g53 54 k rfl) (fun k => g53 55 k rfl) (fun k => g53 6 k rfl) (g53 0 64 rfl) (g53 0 3 rfl)
        have KFM_I54 := gr_FM_fr KFM_I39 (fun k => g53 10 k rfl) (fun k => g53 55 k rfl) (fun k => g53 52 k rfl) (fun k => g53 53 k rfl) (fun k => g53 54 k rfl) (g53 0 64 rfl) (g53 0 3 rfl)
        refine gv_callV hD rfl (As := [.inl z38, .inl 0]) (st := []) rfl (by decide) rfl rfl (gr_lV hws rfl) (Nat.le_of_ble_eq_true rfl) (gz_Ev_mono (d := 608) (by decide) E53) ?_
        show gv_X _ _ (43, [(2, .inl z38), (0, .inr (.inr (some 0))), (1, .inl a1)], [], gr_sh ++ ext, gr_h I54 J55)
        refine gv_run 2 true hD (pcₚ := 47) (lvₚ := [(2, .inl z38), (0, .inr (.inr (some 0))), (1, .inl a1)]) (stₚ := [.inl (I54 0 70)]) (hₚ := gr_h I54 J55) (C := ((True ∧ True) ∧ True)) rfl ⟨⟨trivial, trivial⟩, trivial⟩ ?_
        exact gv_iret hD rfl ⟨I54, J55, rfl, hI54, FI54, FJ55, KPL_I54, KTM_I54, KTO_I54, KFM_I54, ⟨_, rfl, by (/-35-/first | (and_intros; (have o1 := gz_sh f60; omega); (have o1 := gz_sh f60; omega)) | (simp only [gz_hd] at *; omega))⟩⟩
      · refine gv_run 1 true hD (pcₚ := 36) (lvₚ := [(2, .inl z38), (0, .inr (.inr (some 0))), (1, .inl a1)]) (stₚ := [.inl z38]) (hₚ := gr_h I39 J40) (C := (True ∧ True)) rfl ⟨trivial, trivial⟩ ?_
        exact gv_iret hD rfl ⟨I39, J40, rfl, hI39, FI39, FJ40, KPL_I39, KTM_I39, KTO_I39, KFM_I39, ⟨_, rfl, by (/-36-/first | (and_intros; (have o1 := gz_sh q38; omega); (omega)) | (simp only [gz_hd] at *; omega))⟩⟩
    · refine gv_run 1 true hD (pcₚ := 25) (lvₚ := [(0, .inr (.inr (some 0))), (1, .inl a1)]) (stₚ := [.inl (-4)]) (hₚ := gr_h I27 J28) (C := (True ∧ True)) rfl ⟨trivial, trivial⟩ ?_
      exact gv_iret hD rfl ⟨I27, J28, rfl, hI27, FI27, FJ28, KPL_I27, KTM_I27, KTO_I27, KFM_I27, ⟨_, rfl, by (/-37-/first | (and_intros <;> omega) | (simp only [gz_hd] at *; omega))⟩⟩
  · refine gv_run 1 true hD (pcₚ := 9) (lvₚ := [(0, .inr (.inr (some 0))), (1, .inl a1)]) (stₚ := [.inl 0]) (hₚ := gr_h I6 J7) (C := (True ∧ True)) rfl ⟨trivial, trivial⟩ ?_
    exact gv_iret hD rfl ⟨I6, J7, rfl, hI6, FI6, FJ7, KPL_I6, KTM_I6, KTO_I6, KFM_I6, ⟨_, rfl, by (/-38-/first | (and_intros <;> omega) | (simp only [gz_hd] at *; omega))⟩⟩
set_option maxHeartbeats 8000000 in
set_option maxRecDepth 100000 in
theorem r_truth {ws0 : List Cond} {tb : String → gz_T} (hws : ∀ w ∈ gr_ws, w ∈ ws0) (htb : tb RX13 = gr_T) (ext : gz_Sh) (I : gr_I) (J : gr_J) (hI : gr_Inv I) (a1 : Int) (ha1 : (-2147483648) ≤ a1 ∧ a1 ≤ 2147483647) (KPL_I : gr_PL I) (KTM_I : gr_TM I) (KTO_I : gr_TO I) (KFM_I : gr_FM I) : ∃ r hₚ, gz_Ev ws0 tb 906 (yX13_truth, cX13_truth, 3, (some .int)) [.inr (.inr (some 0)), .inl a1] (gr_sh ++ ext) (gr_h I J) r (gr_sh ++ ext) hₚ 0 0 ∧ (∃ (Iₚ : gr_I) (Jₚ : gr_J), hₚ = gr_h Iₚ Jₚ ∧ gr_Inv Iₚ ∧ gr_fr [0, 188, 216, 217, 218, 220, 221] [113, 122, 134, 135, 136, 137, 138] I Iₚ ∧ gr_fj [0, 188, 216, 217, 218, 220, 221] [113, 122, 134, 135, 136, 137, 138] J Jₚ ∧ gr_PL Iₚ ∧ gr_TM Iₚ ∧ gr_TO Iₚ ∧ gr_FM Iₚ ∧ (∃ z : Int, r = some (.inl z) ∧ (-4) ≤ z ∧ z ≤ 1)) := by
  have FI : gr_fr [0, 188, 216, 217, 218, 220, 221] [113, 122, 134, 135, 136, 137, 138] I I := fun _ _ _ => rfl
  have FJ : gr_fj [0, 188, 216, 217, 218, 220, 221] [113, 122, 134, 135, 136, 137, 138] J J := fun _ _ _ => rfl
  have hD : gv_D (gr_E ws0 tb 905 (yX13_truth, cX13_truth, 3, (some .int)) kX13_truth) := gq_of oX13_truth
  refine gr_ev (d := 905) (l := kX13_truth) (Po := fun r hₚ => (∃ (Iₚ : gr_I) (Jₚ : gr_J), hₚ = gr_h Iₚ Jₚ ∧ gr_Inv Iₚ ∧ gr_fr [0, 188, 216, 217, 218, 220, 221] [113, 122, 134, 135, 136, 137, 138] I Iₚ ∧ gr_fj [0, 188, 216, 217, 218, 220, 221] [113, 122, 134, 135, 136, 137, 138] J Jₚ ∧ gr_PL Iₚ ∧ gr_TM Iₚ ∧ gr_TO Iₚ ∧ gr_FM Iₚ ∧ (∃ z : Int, r = some (.inl z) ∧ (-4) ≤ z ∧ z ≤ 1))) htb rfl (Nat.le_of_ble_eq_true rfl) ?_
  refine gv_run 2 true hD (pcₚ := 2) (lvₚ := [(0, .inr (.inr (some 0))), (1, .inl a1)]) (stₚ := [.inl a1, .inr (.inr (some 0))]) (hₚ := gr_h I J) (C := ((True ∧ True) ∧ True)) rfl ⟨⟨trivial, trivial⟩, trivial⟩ ?_
  obtain ⟨r5, h5, E5, P5⟩ := r_noPlace (ws0 := ws0) (tb := tb) hws htb ext I J hI a1 ⟨by (/-0-/first | omega | (simp only [gz_hd] at *; omega)), by (/-1-/first | omega | (simp only [gz_hd] at *; omega))⟩ 
  obtain ⟨I6, J7, rfl, hI6, g5, k5, ⟨z5, rfl, q5⟩⟩ := P5
  replace q5 := gz_hi q5
  have FI6 := gr_frt FI g5 rfl rfl
  have FJ7 := gr_fjt FJ k5 rfl rfl
  have KPL_I6 := gr_PL_fr KPL_I (fun k => g5 114 k rfl) (fun k => g5 115 k rfl) (fun k => g5 6 k rfl) (g5 0 3 rfl)
  have KTM_I6 := gr_TM_fr KTM_I (fun k => g5 52 k rfl) (fun k => g5 53 k rfl) (fun k => g5 54 k rfl) (g5 0 64 rfl)
  have KTO_I6 := gr_TO_fr KTO_I (fun k => g5 52 k rfl) (fun k => g5 53 k rfl) (fun k => g5 54 k rfl) (fun k => g5 55 k rfl) (fun k => g5 6 k rfl) (g5 0 64 rfl) (g5 0 3 rfl)
  have KFM_I6 := gr_FM_fr KFM_I (fun k => g5 10 k rfl) (fun k => g5 55 k rfl) (fun k => g5 52 k rfl) (fun k => g5 53 k rfl) (fun k => g5 54 k rfl) (g5 0 64 rfl) (g5 0 3 rfl)
  refine gv_callV hD rfl (As := [.inl a1]) (st := []) rfl (by decide) rfl rfl (gr_lV hws rfl) (Nat.le_of_ble_eq_true rfl) (gz_Ev_mono (d := 1) (by decide) E5) ?_
  show gv_X _ _ (5, [(0, .inr (.inr (some 0))), (1, .inl a1)], [.inl z5], gr_sh ++ ext, gr_h I6 J7)
  refine gv_if_eq (t := 10) hD rfl rfl ⟨by (/-2-/first | (have o1 := gz_sh q5; omega) | (simp only [gz_hd] at *; omega)), by (/-3-/first | (have o1 := gz_sh q5; omega) | (simp only [gz_hd] at *; omega))⟩ (fun c16 => ?_) (fun c16 => ?_)
  · refine gv_run 2 true hD (pcₚ := 12) (lvₚ := [(0, .inr (.inr (some 0))), (1, .inl a1)]) (stₚ := [.inl a1, .inr (.inr (some 0))]) (hₚ := gr_h I6 J7) (C := ((True ∧ True) ∧ True)) rfl ⟨⟨trivial, trivial⟩, trivial⟩ ?_
    obtain ⟨r17, h17, E17, P17⟩ := r_takes_w (ws0 := ws0) (tb := tb) hws htb ext I6 J7 hI6 a1 ⟨by (/-4-/first | (have o1 := gz_sh q5; omega) | (simp only [gz_hd] at *; omega)), by (/-5-/first | (have o1 := gz_sh q5; omega) | (simp only [gz_hd] at *; omega))⟩ 
    obtain ⟨I18, J19, rfl, hI18, g17, k17, ⟨z17, rfl, q17⟩⟩ := P17
    replace q17 := gz_hi q17
    have FI18 := gr_frt FI6 g17 rfl rfl
    have FJ19 := gr_fjt FJ7 k17 rfl rfl
    have KPL_I18 := gr_PL_fr KPL_I6 (fun k => g17 114 k rfl) (fun k => g17 115 k rfl) (fun k => g17 6 k rfl) (g17 0 3 rfl)
    have KTM_I18 := gr_TM_fr KTM_I6 (fun k => g17 52 k rfl) (fun k => g17 53 k rfl) (fun k => g17 54 k rfl) (g17 0 64 rfl)
    have KTO_I18 := gr_TO_fr KTO_I6 (fun k => g17 52 k rfl) (fun k => g17 53 k rfl) (fun k => g17 54 k rfl) (fun k => g17 55 k rfl) (fun k => g17 6 k rfl) (g17 0 64 rfl) (g17 0 3 rfl)
    have KFM_I18 := gr_FM_fr KFM_I6 (fun k => g17 10 k rfl) (fun k => g17 55 k rfl) (fun k => g17 52 k rfl) (fun k => g17 53 k rfl) (fun k => g17 54 k rfl) (g17 0 64 rfl) (g17 0 3 rfl)
    refine gv_callV hD rfl (As := [.inl a1]) (st := []) rfl (by decide) rfl rfl (gr_lV hws rfl) (Nat.le_of_ble_eq_true rfl) (gz_Ev_mono (d := 1) (by decide) E17) ?_
    show gv_X _ _ (15, [(0, .inr (.inr (some 0))), (1, .inl a1)], [.inl z17], gr_sh ++ ext, gr_h I18 J19)
    refine gv_if_ne (t := 21) hD rfl rfl ⟨by (/-6-/first | (have o1 := gz_sh q17; omega) | (simp only [gz_hd] at *; omega)), by (/-7-/first | (have o1 := gz_sh q17; omega) | (simp only [gz_hd] at *; omega))⟩ (fun c27 => ?_) (fun c27 => ?_)
    · refine gv_run 1 true hD (pcₚ := 22) (lvₚ := [(0, .inr (.inr (some 0))), (1, .inl a1)]) (stₚ := [.inr (.inr (some 0))]) (hₚ := gr_h I18 J19) (C := (True ∧ True)) rfl ⟨trivial, trivial⟩ ?_
      have t28 := gz_hi ((gr_CD_tk KPL_I6 (p := a1) (n := z17) ⟨by (/-8-/first | (have o1 := gz_sh q5; omega) | (simp only [gz_hd] at *; omega)), by (/-9-/first | (have o1 := gz_sh q5; omega) | (simp only [gz_hd] at *; omega))⟩ (by (/-10-/first | (have o1 := gz_sh q17; omega) | (simp only [gz_hd] at *; omega))) (by (/-11-/first | omega | (simp only [gz_hd] at *; omega))) (gz_sh q17).2.2.2.2 (fun k => g17 6 k rfl) (g17 0 3 rfl)).2)
      obtain ⟨r29, h29, E29, P29⟩ := r_means (ws0 := ws0) (tb := tb) hws htb ext I18 J19 hI18   (by rw [show I18 0 188 = z17 from by (/-12-/first | (have o1 := gz_sh q17; omega) | (simp only [gz_hd] at *; omega))]; exact (gr_CD_tk KPL_I6 (p := a1) (n := z17) ⟨by (/-13-/first | (have o1 := gz_sh q5; omega) | (simp only [gz_hd] at *; omega)), by (/-14-/first | (have o1 := gz_sh q5; omega) | (simp only [gz_hd] at *; omega))⟩ (by (/-15-/first | (have o1 := gz_sh q17; omega) | (simp only [gz_hd] at *; omega))) (by (/-16-/first | omega | (simp only [gz_hd] at *; omega))) (gz_sh q17).2.2.2.2 (fun k => g17 6 k rfl) (g17 0 3 rfl)).1) (by (/-17-/first | (have o1 := gz_sh q17; have o2 := gz_sh t28; omega) | (simp only [gz_hd] at *; omega))) (by (/-18-/first | (have o1 := gz_sh q17; omega) | (simp only [gz_hd] at *; omega))) KTM_I18 KTO_I18 KFM_I18
      obtain ⟨I30, J31, rfl, hI30, g29, k29, KTM_I30, KTO_I30, KFM_I30, ⟨z29, rfl, q29⟩⟩ := P29
      replace q29 := gz_hi q29
      have FI30 := gr_frt FI18 g29 rfl rfl
      have FJ31 := gr_fjt FJ19 k29 rfl rfl
      have KPL_I30 := gr_PL_fr KPL_I18 (fun k => g29 114 k rfl) (fun k => g29 115 k rfl) (fun k => g29 6 k rfl) (g29 0 3 rfl)
      refine gv_callV hD rfl (As := []) (st := []) rfl (by decide) rfl rfl (gr_lV hws rfl) (Nat.le_of_ble_eq_true rfl) (gz_Ev_mono (d := 905) (by decide) E29) ?_
      show gv_X _ _ (25, [(0, .inr (.inr (some 0))), (1, .inl a1)], [.inl z29], gr_sh ++ ext, gr_h I30 J31)
      refine gv_run 2 true hD (pcₚ := 27) (lvₚ := [(2, .inl z29), (0, .inr (.inr (some 0))), (1, .inl a1)]) (stₚ := [.inl z29]) (hₚ := gr_h I30 J31) (C := ((True ∧ True) ∧ True)) rfl ⟨⟨trivial, trivial⟩, trivial⟩ ?_
      refine gv_if_ge (t := 32) hD rfl rfl ⟨by (/-19-/first | (have o1 := gz_sh q29; omega) | (simp only [gz_hd] at *; omega)), by (/-20-/first | (have o1 := gz_sh q29; omega) | (simp only [gz_hd] at *; omega))⟩ (fun c40 => ?_) (fun c40 => ?_)
      · obtain ⟨a9, b9, S9, k9⟩ := Or.resolve_left ((gz_sh q29).2.2) (by (/-21-/first | (have o1 := gz_sh q29; omega) | (simp only [gz_hd] at *; omega)))
        refine gv_run 3 true hD (pcₚ := 37) (lvₚ := [(2, .inl z29), (0, .inr (.inr (some 0))), (1, .inl a1)]) (stₚ := []) (hₚ := gz_up (gr_h I30 J31) 0 220 (.inl 0)) (C := (((True ∧ True) ∧ True) ∧ True)) rfl ⟨⟨⟨trivial, trivial⟩, trivial⟩, trivial⟩ ?_
        refine gr_st hI30 FI30 rfl rfl ⟨⟨by show 0 ≤ _; (/-22-/first | omega | (simp only [gz_hd] at *; omega)), by show _ ≤ 399; (/-23-/first | omega | (simp only [gz_hd] at *; omega))⟩, trivial⟩ (fun I41 hI41 FI41 q42 p42 => ?_)
        have KPL_I41 := gr_PL_fr KPL_I30 (fun k => p42 114 k (fun q => absurd q.1 (by first | exact gz_ne rfl | decide))) (fun k => p42 115 k (fun q => absurd q.1 (by first | exact gz_ne rfl | decide))) (fun k => p42 6 k (fun q => absurd q.1 (by first | exact gz_ne rfl | decide))) (p42 0 3 (by decide))
        have KTM_I41 := gr_TM_fr KTM_I30 (fun k => p42 52 k (fun q => absurd q.1 (by first | exact gz_ne rfl | decide))) (fun k => p42 53 k (fun q => absurd q.1 (by first | exact gz_ne rfl | decide))) (fun k => p42 54 k (fun q => absurd q.1 (by first | exact gz_ne rfl | decide))) (p42 0 64 (by decide))
        have KTO_I41 := gr_TO_fr KTO_I30 (fun k => p42 52 k (fun q => absurd q.1 (by first | exact gz_ne rfl | decide))) (fun k => p42 53 k (fun q => absurd q.1 (by first | exact gz_ne rfl | decide))) (fun k => p42 54 k (fun q => absurd q.1 (by first | exact gz_ne rfl | decide))) (fun k => p42 55 k (fun q => absurd q.1 (by first | exact gz_ne rfl | decide))) (fun k => p42 6 k (fun q => absurd q.1 (by first | exact gz_ne rfl | decide))) (p42 0 64 (by decide)) (p42 0 3 (by decide))
        have KFM_I41 := gr_FM_fr KFM_I30 (fun k => p42 10 k (fun q => absurd q.1 (by first | exact gz_ne rfl | decide))) (fun k => p42 55 k (fun q => absurd q.1 (by first | exact gz_ne rfl | decide))) (fun k => p42 52 k (fun q => absurd q.1 (by first | exact gz_ne rfl | decide))) (fun k => p42 53 k (fun q => absurd q.1 (by first | exact gz_ne rfl | decide))) (fun k => p42 54 k (fun q => absurd q.1 (by first | exact gz_ne rfl | decide))) (p42 0 64 (by decide)) (p42 0 3 (by decide))
        refine gv_run 3 true hD (pcₚ := 42) (lvₚ := [(2, .inl z29), (0, .inr (.inr (some 0))), (1, .inl a1)]) (stₚ := []) (hₚ := gz_up (gr_h I41 J31) 0 221 (.inl 0)) (C := (((True ∧ True) ∧ True) ∧ True)) rfl ⟨⟨⟨trivial, trivial⟩, trivial⟩, trivial⟩ ?_
        refine gr_st hI41 FI41 rfl rfl ⟨⟨by show 0 ≤ _; (/-24-/first | omega | (simp only [gz_hd] at *; omega)), by show _ ≤ 20001; (/-25-/first | omega | (simp only [gz_hd] at *; omega))⟩, trivial⟩ (fun I50 hI50 FI50 q51 p51 => ?_)
        have t54 := gz_hi (p51 0 220 (by decide))
        have KPL_I50 := gr_PL_fr KPL_I41 (fun k => p51 114 k (fun q => absurd q.1 (by first | exact gz_ne rfl | decide))) (fun k => p51 115 k (fun q => absurd q.1 (by first | exact gz_ne rfl | decide))) (fun k => p51 6 k (fun q => absurd q.1 (by first | exact gz_ne rfl | decide))) (p51 0 3 (by decide))
        have KTM_I50 := gr_TM_fr KTM_I41 (fun k => p51 52 k (fun q => absurd q.1 (by first | exact gz_ne rfl | decide))) (fun k => p51 53 k (fun q => absurd q.1 (by first | exact gz_ne rfl | decide))) (fun k => p51 54 k (fun q => absurd q.1 (by first | exact gz_ne rfl | decide))) (p51 0 64 (by decide))
        have KTO_I50 := gr_TO_fr KTO_I41 (fun k => p51 52 k (fun q => absurd q.1 (by first | exact gz_ne rfl | decide))) (fun k => p51 53 k (fun q => absurd q.1 (by first | exact gz_ne rfl | decide))) (fun k => p51 54 k (fun q => absurd q.1 (by first | exact gz_ne rfl | decide))) (fun k => p51 55 k (fun q => absurd q.1 (by first | exact gz_ne rfl | decide))) (fun k => p51 6 k (fun q => absurd q.1 (by first | exact gz_ne rfl | decide))) (p51 0 64 (by decide)) (p51 0 3 (by decide))
        have KFM_I50 := gr_FM_fr KFM_I41 (fun k => p51 10 k (fun q => absurd q.1 (by first | exact gz_ne rfl | decide))) (fun k => p51 55 k (fun q => absurd q.1 (by first | exact gz_ne rfl | decide))) (fun k => p51 52 k (fun q => absurd q.1 (by first | exact gz_ne rfl | decide))) (fun k => p51 53 k (fun q => absurd q.1 (by first | exact gz_ne rfl | decide))) (fun k => p51 54 k (fun q => absurd q.1 (by first | exact gz_ne rfl | decide))) (p51 0 64 (by decide)) (p51 0 3 (by decide))
        refine gv_run 2 true hD (pcₚ := 44) (lvₚ := [(2, .inl z29), (0, .inr (.inr (some 0))), (1, .inl a1)]) (stₚ := [.inl z29, .inr (.inr (some 0))]) (hₚ := gr_h I50 J31) (C := ((True ∧ True) ∧ True)) rfl ⟨⟨trivial, trivial⟩, trivial⟩ ?_
        have t60 := gz_hi (gr_GH_b k9.1 (x := z29) ⟨by (/-26-/first | omega | (simp only [gz_hd] at *; omega)), by (/-27-/first | omega | (simp only [gz_hd] at *; omega))⟩)
        have t61 := gz_hi (k9.1.1)
        have t62 := gz_hi (((p51 137 (Int.toNat z29) (fun q => absurd q.1 (by first | exact gz_ne rfl | decide))).trans (p42 137 (Int.toNat z29) (fun q => absurd q.1 (by first | exact gz_ne rfl | decide)))))
        have t63 := gz_hi (((p51 137 (5000 + Int.toNat z29) (fun q => absurd q.1 (by first | exact gz_ne rfl | decide))).trans (p42 137 (5000 + Int.toNat z29) (fun q => absurd q.1 (by first | exact gz_ne rfl | decide)))))
        obtain ⟨r64, h64, E64, P64⟩ := r_holds (ws0 := ws0) (tb := tb) hws htb ext a9 b9 S9 301 I50 J31 hI50 z29 ⟨by (/-28-/first | omega | (simp only [gz_hd] at *; omega)), by (/-29-/first | (have o1 := gz_sh t61; omega) | (simp only [gz_hd] at *; omega))⟩ (gr_GH_c0 k9.1 (fun b j hb => ((p51 b j (fun q => hb q.1)).trans (p42 b j (fun q => hb q.1))))) (by (/-30-/first | omega | (simp only [gz_hd] at *; omega))) (by (/-31-/first | omega | (simp only [gz_hd] at *; omega))) (by (/-32-/first | (have o1 := gz_sh t54; have o2 := gz_sh t63; omega) | (simp only [gz_hd] at *; omega))) (by (/-33-/first | (have o1 := gz_sh t54; have o2 := gz_sh t60; have o3 := gz_sh t62; omega) | (simp only [gz_hd] at *; omega))) (by (/-34-/first | omega | (simp only [gz_hd] at *; omega))) (by (/-35-/first | (have o1 := gz_sh t60; have o2 := gz_sh t62; omega) | (simp only [gz_hd] at *; omega)))
        obtain ⟨I65, J66, rfl, hI65, g64, k64, ⟨z64, rfl, q64⟩⟩ := P64
        replace q64 := gz_hi q64
        have FI65 := gr_frt FI50 g64 rfl rfl
        have FJ66 := gr_fjt FJ31 k64 rfl rfl
        have KPL_I65 := gr_PL_fr KPL_I50 (fun k => g64 114 k rfl) (fun k => g64 115 k rfl) (fun k => g64 6 k rfl) (g64 0 3 rfl)
        have KTM_I65 := gr_TM_fr KTM_I50 (fun k => g64 52 k rfl) (fun k => g64 53 k rfl) (fun k => g64 54 k rfl) (g64 0 64 rfl)
        have KTO_I65 := gr_TO_fr KTO_I50 (fun k => g64 52 k rfl) (fun k => g64 53 k rfl) (fun k => g64 54 k rfl) (fun k => g64 55 k rfl) (fun k => g64 6 k rfl) (g64 0 64 rfl) (g64 0 3 rfl)
        have KFM_I65 := gr_FM_fr KFM_I50 (fun k => g64 10 k rfl) (fun k => g64 55 k rfl) (fun k => g64 52 k rfl) (fun k => g64 53 k rfl) (fun k => g64 54 k rfl) (g64 0 64 rfl) (g64 0 3 rfl)
        refine gv_callV hD rfl (As := [.inl z29]) (st := []) rfl (by decide) rfl rfl (gr_lV hws rfl) (Nat.le_of_ble_eq_true rfl) (gz_Ev_mono (d := 303) (by decide) E64) ?_
        show gv_X _ _ (47, [(2, .inl z29), (0, .inr (.inr (some 0))), (1, .inl a1)], [.inl z64], gr_sh ++ ext, gr_h I65 J66)
        exact gv_iret hD rfl ⟨I65, J66, rfl, hI65, FI65, FJ66, KPL_I65, KTM_I65, KTO_I65, KFM_I65, ⟨_, rfl, by (/-36-/first | (and_intros; (have o1 := gz_sh q64; omega); (have o1 := gz_sh q64; omega)) | (simp only [gz_hd] at *; omega))⟩⟩
      · refine gv_run 1 true hD (pcₚ := 31) (lvₚ := [(2, .inl z29), (0, .inr (.inr (some 0))), (1, .inl a1)]) (stₚ := [.inl z29]) (hₚ := gr_h I30 J31) (C := (True ∧ True)) rfl ⟨trivial, trivial⟩ ?_
        exact gv_iret hD rfl ⟨I30, J31, rfl, hI30, FI30, FJ31, KPL_I30, KTM_I30, KTO_I30, KFM_I30, ⟨_, rfl, by (/-37-/first | (and_intros; (have o1 := gz_sh q29; omega); (omega)) | (simp only [gz_hd] at *; omega))⟩⟩
    · refine gv_run 1 true hD (pcₚ := 20) (lvₚ := [(0, .inr (.inr (some 0))), (1, .inl a1)]) (stₚ := [.inl (-4)]) (hₚ := gr_h I18 J19) (C := (True ∧ True)) rfl ⟨trivial, trivial⟩ ?_
      exact gv_iret hD rfl ⟨I18, J19, rfl, hI18, FI18, FJ19, KPL_I18, KTM_I18, KTO_I18, KFM_I18, ⟨_, rfl, by (/-38-/first | (and_intros <;> omega) | (simp only [gz_hd] at *; omega))⟩⟩
  · refine gv_run 1 true hD (pcₚ := 9) (lvₚ := [(0, .inr (.inr (some 0))), (1, .inl a1)]) (stₚ := [.inl 0]) (hₚ := gr_h I6 J7) (C := (True ∧ True)) rfl ⟨trivial, trivial⟩ ?_
    exact gv_iret hD rfl ⟨I6, J7, rfl, hI6, FI6, FJ7, KPL_I6, KTM_I6, KTO_I6, KFM_I6, ⟨_, rfl, by (/-39-/first | (and_intros <;> omega) | (simp only [gz_hd] at *; omega))⟩⟩
