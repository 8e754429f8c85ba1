/-! THE ONE LIST OF WORDS, the tables of fields. -/
def gk_wx : List Cond := [Cond.classLink RX12 115 "java/lang/IllegalArgumentException", Cond.initialized "java/lang/IllegalArgumentException", Cond.classLink RX12 104 "java/lang/IllegalStateException", Cond.initialized "java/lang/IllegalStateException"] ++ (px_atI.filter goodWord ++ gt_atE.filter goodWord)
def gw_r : List (List Cond) := [gr_ws, gc_wcl, gc_wnl, jx_ws, gl_wl, gf_l RX0 gc_f0, gf_k RX0 gc_k0, gf_l RX1 gc_f1, gf_k RX1 gc_k1, gf_l RX2 gc_f2, gf_k RX2 gc_k2, gf_l RX3 gc_f3, gf_k RX3 gc_k3, gf_l RX4 gc_f4, gf_k RX4 gc_k4, gf_l RX5 gc_f5, gf_k RX5 gc_k5, gf_l RX6 gc_f6, gf_k RX6 gc_k6, gf_l RX7 gc_f7, gf_k RX7 gc_k7, gf_l RX8 gc_f8, gf_k RX8 gc_k8, gf_l RX9 gc_f9, gf_k RX9 gc_k9, gf_l RX10 gc_f10, gf_k RX10 gc_k10, gf_l RX11 gc_f11, gf_k RX11 gc_k11, gf_l RX12 gc_f12, gf_k RX12 gc_k12, gf_l RX13 gr_ft, gf_k RX13 gr_ct, u_ws RX0 TX0 22, u_ws RX1 TX1 19, u_ws RX2 TX2 10, u_ws RX3 TX3 16, u_ws RX4 TX4 2, u_ws RX5 TX5 19, u_ws RX6 TX6 19, u_ws RX7 TX7 14, u_ws RX8 TX8 21, u_ws RX9 TX9 10, u_ws RX10 TX10 19, u_ws RX11 TX11 16, u_ws RX12 TX12 17, u_ws RX13 TX13 229, gk_wx]
def gw_ws : List Cond := gc_wsl.flatten ++ gw_r.flatten
theorem gw_Ws : gc_Ws gw_ws := fun l hl w hw => List.mem_append_left _ (List.mem_flatten.mpr ⟨l, hl, hw⟩)
theorem gw_at (i : Nat) {l : List Cond} (h : gw_r[i]? = some l) : ∀ w ∈ l, w ∈ gw_ws := fun w hw => List.mem_append_right _ (List.mem_flatten.mpr ⟨l, List.mem_of_getElem? h, hw⟩)
theorem gw_Wr : ∀ w ∈ gr_ws, w ∈ gw_ws := gw_at 0 rfl
theorem gw_Wc : gc_Wc gw_ws := gw_at 1 rfl
theorem gw_Wn : gc_Wn gw_ws := ⟨gw_at 2 rfl, gw_at 36 rfl, gw_at 37 rfl, gw_at 35 rfl, gw_at 44 rfl⟩
theorem gw_Wj : ∀ w ∈ jx_ws, w ∈ gw_ws := gw_at 3 rfl
theorem gw_Wl : ∀ w ∈ gl_wl, w ∈ gw_ws := gw_at 4 rfl
theorem gw_wx : ∀ w ∈ gk_wx, w ∈ gw_ws := gw_at 47 rfl
theorem gw_Wx : gt_Wx gw_ws :=
  ⟨⟨gw_wx _ (List.mem_append_left _ (List.mem_of_getElem? (i := 0) rfl)), gw_wx _ (List.mem_append_left _ (List.mem_of_getElem? (i := 1) rfl)), fun _ h => gw_wx _ (List.mem_append_right _ (List.mem_append_left _ h))⟩,
    ⟨gw_wx _ (List.mem_append_left _ (List.mem_of_getElem? (i := 2) rfl)), gw_wx _ (List.mem_append_left _ (List.mem_of_getElem? (i := 3) rfl)), fun _ h => gw_wx _ (List.mem_append_right _ (List.mem_append_right _ h))⟩⟩
set_option maxRecDepth 100000 in
theorem gwg0 : (gc_wv RX0 gc_cv0).all goodWord = true := by decide +kernel
set_option maxRecDepth 100000 in
theorem gwg1 : (gc_wt RX0 gc_cs0).all goodWord = true := by decide +kernel
set_option maxRecDepth 100000 in
theorem gwg2 : (gc_wv RX1 gc_cv1).all goodWord = true := by decide +kernel
set_option maxRecDepth 100000 in
theorem gwg3 : (gc_wt RX1 gc_cs1).all goodWord = true := by decide +kernel
set_option maxRecDepth 100000 in
theorem gwg4 : (gc_wv RX2 gc_cv2).all goodWord = true := by decide +kernel
set_option maxRecDepth 100000 in
theorem gwg5 : (gc_wt RX2 gc_cs2).all goodWord = true := by decide +kernel
set_option maxRecDepth 100000 in
theorem gwg6 : (gc_wv RX3 gc_cv3).all goodWord = true := by decide +kernel
set_option maxRecDepth 100000 in
theorem gwg7 : (gc_wt RX3 gc_cs3).all goodWord = true := by decide +kernel
set_option maxRecDepth 100000 in
theorem gwg8 : (gc_wv RX4 gc_cv4).all goodWord = true := by decide +kernel
set_option maxRecDepth 100000 in
theorem gwg9 : (gc_wt RX4 gc_cs4).all goodWord = true := by decide +kernel
set_option maxRecDepth 100000 in
theorem gwg10 : (gc_wv RX5 gc_cv5).all goodWord = true := by decide +kernel
set_option maxRecDepth 100000 in
theorem gwg11 : (gc_wt RX5 gc_cs5).all goodWord = true := by decide +kernel
set_option maxRecDepth 100000 in
theorem gwg12 : (gc_wv RX6 gc_cv6).all goodWord = true := by decide +kernel
set_option maxRecDepth 100000 in
theorem gwg13 : (gc_wt RX6 gc_cs6).all goodWord = true := by decide +kernel
set_option maxRecDepth 100000 in
theorem gwg14 : (gc_wv RX7 gc_cv7).all goodWord = true := by decide +kernel
set_option maxRecDepth 100000 in
theorem gwg15 : (gc_wt RX7 gc_cs7).all goodWord = true := by decide +kernel
set_option maxRecDepth 100000 in
theorem gwg16 : (gc_wv RX8 gc_cv8).all goodWord = true := by decide +kernel
set_option maxRecDepth 100000 in
theorem gwg17 : (gc_wt RX8 gc_cs8).all goodWord = true := by decide +kernel
set_option maxRecDepth 100000 in
theorem gwg18 : (gc_wv RX9 gc_cv9).all goodWord = true := by decide +kernel
set_option maxRecDepth 100000 in
theorem gwg19 : (gc_wt RX9 gc_cs9).all goodWord = true := by decide +kernel
set_option maxRecDepth 100000 in
theorem gwg20 : (gc_wv RX10 gc_cv10).all goodWord = true := by decide +kernel
set_option maxRecDepth 100000 in
theorem gwg21 : (gc_wt RX10 gc_cs10).all goodWord = true := by decide +kernel
set_option maxRecDepth 100000 in
theorem gwg22 : (gc_wv RX11 gc_cv11).all goodWord = true := by decide +kernel
set_option maxRecDepth 100000 in
theorem gwg23 : (gc_wt RX11 gc_cs11).all goodWord = true := by decide +kernel
set_option maxRecDepth 100000 in
theorem gwg24 : (gc_wv RX12 gc_cv12).all goodWord = true := by decide +kernel
set_option maxRecDepth 100000 in
theorem gwg25 : (gc_wt RX12 gc_cs12).all goodWord = true := by decide +kernel
set_option maxRecDepth 100000 in
theorem gwg26 : (gc_wc).all goodWord = true := by decide +kernel
set_option maxRecDepth 100000 in
theorem gwh0 : (gr_ws).all goodWord = true := by decide +kernel
set_option maxRecDepth 100000 in
theorem gwh1 : (gc_wcl).all goodWord = true := by decide +kernel
set_option maxRecDepth 100000 in
theorem gwh2 : (gc_wnl).all goodWord = true := by decide +kernel
set_option maxRecDepth 100000 in
theorem gwh3 : (jx_ws).all goodWord = true := by decide +kernel
set_option maxRecDepth 100000 in
theorem gwh4 : (gl_wl).all goodWord = true := by decide +kernel
set_option maxRecDepth 100000 in
theorem gwh5 : (gf_l RX0 gc_f0).all goodWord = true := by decide +kernel
set_option maxRecDepth 100000 in
theorem gwh6 : (gf_k RX0 gc_k0).all goodWord = true := by decide +kernel
set_option maxRecDepth 100000 in
theorem gwh7 : (gf_l RX1 gc_f1).all goodWord = true := by decide +kernel
set_option maxRecDepth 100000 in
theorem gwh8 : (gf_k RX1 gc_k1).all goodWord = true := by decide +kernel
set_option maxRecDepth 100000 in
theorem gwh9 : (gf_l RX2 gc_f2).all goodWord = true := by decide +kernel
set_option maxRecDepth 100000 in
theorem gwh10 : (gf_k RX2 gc_k2).all goodWord = true := by decide +kernel
set_option maxRecDepth 100000 in
theorem gwh11 : (gf_l RX3 gc_f3).all goodWord = true := by decide +kernel
set_option maxRecDepth 100000 in
theorem gwh12 : (gf_k RX3 gc_k3).all goodWord = true := by decide +kernel
set_option maxRecDepth 100000 in
theorem gwh13 : (gf_l RX4 gc_f4).all goodWord = true := by decide +kernel
set_option maxRecDepth 100000 in
theorem gwh14 : (gf_k RX4 gc_k4).all goodWord = true := by decide +kernel
set_option maxRecDepth 100000 in
theorem gwh15 : (gf_l RX5 gc_f5).all goodWord = true := by decide +kernel
set_option maxRecDepth 100000 in
theorem gwh16 : (gf_k RX5 gc_k5).all goodWord = true := by decide +kernel
set_option maxRecDepth 100000 in
theorem gwh17 : (gf_l RX6 gc_f6).all goodWord = true := by decide +kernel
set_option maxRecDepth 100000 in
theorem gwh18 : (gf_k RX6 gc_k6).all goodWord = true := by decide +kernel
set_option maxRecDepth 100000 in
theorem gwh19 : (gf_l RX7 gc_f7).all goodWord = true := by decide +kernel
set_option maxRecDepth 100000 in
theorem gwh20 : (gf_k RX7 gc_k7).all goodWord = true := by decide +kernel
set_option maxRecDepth 100000 in
theorem gwh21 : (gf_l RX8 gc_f8).all goodWord = true := by decide +kernel
set_option maxRecDepth 100000 in
theorem gwh22 : (gf_k RX8 gc_k8).all goodWord = true := by decide +kernel
set_option maxRecDepth 100000 in
theorem gwh23 : (gf_l RX9 gc_f9).all goodWord = true := by decide +kernel
set_option maxRecDepth 100000 in
theorem gwh24 : (gf_k RX9 gc_k9).all goodWord = true := by decide +kernel
set_option maxRecDepth 100000 in
theorem gwh25 : (gf_l RX10 gc_f10).all goodWord = true := by decide +kernel
set_option maxRecDepth 100000 in
theorem gwh26 : (gf_k RX10 gc_k10).all goodWord = true := by decide +kernel
set_option maxRecDepth 100000 in
theorem gwh27 : (gf_l RX11 gc_f11).all goodWord = true := by decide +kernel
set_option maxRecDepth 100000 in
theorem gwh28 : (gf_k RX11 gc_k11).all goodWord = true := by decide +kernel
set_option maxRecDepth 100000 in
theorem gwh29 : (gf_l RX12 gc_f12).all goodWord = true := by decide +kernel
set_option maxRecDepth 100000 in
theorem gwh30 : (gf_k RX12 gc_k12).all goodWord = true := by decide +kernel
set_option maxRecDepth 100000 in
theorem gwh31 : (gf_l RX13 gr_ft).all goodWord = true := by decide +kernel
set_option maxRecDepth 100000 in
theorem gwh32 : (gf_k RX13 gr_ct).all goodWord = true := by decide +kernel
set_option maxRecDepth 100000 in
theorem gwh33 : (u_ws RX0 TX0 22).all goodWord = true := by decide +kernel
set_option maxRecDepth 100000 in
theorem gwh34 : (u_ws RX1 TX1 19).all goodWord = true := by decide +kernel
set_option maxRecDepth 100000 in
theorem gwh35 : (u_ws RX2 TX2 10).all goodWord = true := by decide +kernel
set_option maxRecDepth 100000 in
theorem gwh36 : (u_ws RX3 TX3 16).all goodWord = true := by decide +kernel
set_option maxRecDepth 100000 in
theorem gwh37 : (u_ws RX4 TX4 2).all goodWord = true := by decide +kernel
set_option maxRecDepth 100000 in
theorem gwh38 : (u_ws RX5 TX5 19).all goodWord = true := by decide +kernel
set_option maxRecDepth 100000 in
theorem gwh39 : (u_ws RX6 TX6 19).all goodWord = true := by decide +kernel
set_option maxRecDepth 100000 in
theorem gwh40 : (u_ws RX7 TX7 14).all goodWord = true := by decide +kernel
set_option maxRecDepth 100000 in
theorem gwh41 : (u_ws RX8 TX8 21).all goodWord = true := by decide +kernel
set_option maxRecDepth 100000 in
theorem gwh42 : (u_ws RX9 TX9 10).all goodWord = true := by decide +kernel
set_option maxRecDepth 100000 in
theorem gwh43 : (u_ws RX10 TX10 19).all goodWord = true := by decide +kernel
set_option maxRecDepth 100000 in
theorem gwh44 : (u_ws RX11 TX11 16).all goodWord = true := by decide +kernel
set_option maxRecDepth 100000 in
theorem gwh45 : (u_ws RX12 TX12 17).all goodWord = true := by decide +kernel
set_option maxRecDepth 100000 in
theorem gwh46 : (u_ws RX13 TX13 229).all goodWord = true := by decide +kernel
theorem gw_wx_good : ∀ w ∈ gk_wx, goodWord w = true := fun w h => by
  rcases List.mem_append.mp h with h | h
  · exact List.all_eq_true.mp (show List.all [Cond.classLink RX12 115 "java/lang/IllegalArgumentException", Cond.initialized "java/lang/IllegalArgumentException", Cond.classLink RX12 104 "java/lang/IllegalStateException", Cond.initialized "java/lang/IllegalStateException"] goodWord = true from by decide +kernel) w h
  · rcases List.mem_append.mp h with h | h
    · exact (List.mem_filter.mp h).2
    · exact (List.mem_filter.mp h).2
set_option maxRecDepth 100000 in
theorem gw_g0 : ∀ l ∈ gc_wsl, ∀ w ∈ l, goodWord w = true := List.forall_mem_cons.mpr ⟨List.all_eq_true.mp gwg0, List.forall_mem_cons.mpr ⟨List.all_eq_true.mp gwg1, List.forall_mem_cons.mpr ⟨List.all_eq_true.mp gwg2, List.forall_mem_cons.mpr ⟨List.all_eq_true.mp gwg3, List.forall_mem_cons.mpr ⟨List.all_eq_true.mp gwg4, List.forall_mem_cons.mpr ⟨List.all_eq_true.mp gwg5, List.forall_mem_cons.mpr ⟨List.all_eq_true.mp gwg6, List.forall_mem_cons.mpr ⟨List.all_eq_true.mp gwg7, List.forall_mem_cons.mpr ⟨List.all_eq_true.mp gwg8, List.forall_mem_cons.mpr ⟨List.all_eq_true.mp gwg9, List.forall_mem_cons.mpr ⟨List.all_eq_true.mp gwg10, List.forall_mem_cons.mpr ⟨List.all_eq_true.mp gwg11, List.forall_mem_cons.mpr ⟨List.all_eq_true.mp gwg12, List.forall_mem_cons.mpr ⟨List.all_eq_true.mp gwg13, List.forall_mem_cons.mpr ⟨List.all_eq_true.mp gwg14, List.forall_mem_cons.mpr ⟨List.all_eq_true.mp gwg15, List.forall_mem_cons.mpr ⟨List.all_eq_true.mp gwg16, List.forall_mem_cons.mpr ⟨List.all_eq_true.mp gwg17, List.forall_mem_cons.mpr ⟨List.all_eq_true.mp gwg18, List.forall_mem_cons.mpr ⟨List.all_eq_true.mp gwg19, List.forall_mem_cons.mpr ⟨List.all_eq_true.mp gwg20, List.forall_mem_cons.mpr ⟨List.all_eq_true.mp gwg21, List.forall_mem_cons.mpr ⟨List.all_eq_true.mp gwg22, List.forall_mem_cons.mpr ⟨List.all_eq_true.mp gwg23, List.forall_mem_cons.mpr ⟨List.all_eq_true.mp gwg24, List.forall_mem_cons.mpr ⟨List.all_eq_true.mp gwg25, List.forall_mem_cons.mpr ⟨List.all_eq_true.mp gwg26, fun _ h => absurd h List.not_mem_nil⟩⟩⟩⟩⟩⟩⟩⟩⟩⟩⟩⟩⟩⟩⟩⟩⟩⟩⟩⟩⟩⟩⟩⟩⟩⟩⟩
set_option maxRecDepth 100000 in
theorem gw_g1 : ∀ l ∈ gw_r, ∀ w ∈ l, goodWord w = true := List.forall_mem_cons.mpr ⟨List.all_eq_true.mp gwh0, List.forall_mem_cons.mpr ⟨List.all_eq_true.mp gwh1, List.forall_mem_cons.mpr ⟨List.all_eq_true.mp gwh2, List.forall_mem_cons.mpr ⟨List.all_eq_true.mp gwh3, List.forall_mem_cons.mpr ⟨List.all_eq_true.mp gwh4, List.forall_mem_cons.mpr ⟨List.all_eq_true.mp gwh5, List.forall_mem_cons.mpr ⟨List.all_eq_true.mp gwh6, List.forall_mem_cons.mpr ⟨List.all_eq_true.mp gwh7, List.forall_mem_cons.mpr ⟨List.all_eq_true.mp gwh8, List.forall_mem_cons.mpr ⟨List.all_eq_true.mp gwh9, List.forall_mem_cons.mpr ⟨List.all_eq_true.mp gwh10, List.forall_mem_cons.mpr ⟨List.all_eq_true.mp gwh11, List.forall_mem_cons.mpr ⟨List.all_eq_true.mp gwh12, List.forall_mem_cons.mpr ⟨List.all_eq_true.mp gwh13, List.forall_mem_cons.mpr ⟨List.all_eq_true.mp gwh14, List.forall_mem_cons.mpr ⟨List.all_eq_true.mp gwh15, List.forall_mem_cons.mpr ⟨List.all_eq_true.mp gwh16, List.forall_mem_cons.mpr ⟨List.all_eq_true.mp gwh17, List.forall_mem_cons.mpr ⟨List.all_eq_true.mp gwh18, List.forall_mem_cons.mpr ⟨List.all_eq_true.mp gwh19, List.forall_mem_cons.mpr ⟨List.all_eq_true.mp gwh20, List.forall_mem_cons.mpr ⟨List.all_eq_true.mp gwh21, List.forall_mem_cons.mpr ⟨List.all_eq_true.mp gwh22, List.forall_mem_cons.mpr ⟨List.all_eq_true.mp gwh23, List.forall_mem_cons.mpr ⟨List.all_eq_true.mp gwh24, List.forall_mem_cons.mpr ⟨List.all_eq_true.mp gwh25, List.forall_mem_cons.mpr ⟨List.all_eq_true.mp gwh26, List.forall_mem_cons.mpr ⟨List.all_eq_true.mp gwh27, List.forall_mem_cons.mpr ⟨List.all_eq_true.mp gwh28, List.forall_mem_cons.mpr ⟨List.all_eq_true.mp gwh29, List.forall_mem_cons.mpr ⟨List.all_eq_true.mp gwh30, List.forall_mem_cons.mpr ⟨List.all_eq_true.mp gwh31, List.forall_mem_cons.mpr ⟨List.all_eq_true.mp gwh32, List.forall_mem_cons.mpr ⟨List.all_eq_true.mp gwh33, List.forall_mem_cons.mpr ⟨List.all_eq_true.mp gwh34, List.forall_mem_cons.mpr ⟨List.all_eq_true.mp gwh35, List.forall_mem_cons.mpr ⟨List.all_eq_true.mp gwh36, List.forall_mem_cons.mpr ⟨List.all_eq_true.mp gwh37, List.forall_mem_cons.mpr ⟨List.all_eq_true.mp gwh38, List.forall_mem_cons.mpr ⟨List.all_eq_true.mp gwh39, List.forall_mem_cons.mpr ⟨List.all_eq_true.mp gwh40, List.forall_mem_cons.mpr ⟨List.all_eq_true.mp gwh41, List.forall_mem_cons.mpr ⟨List.all_eq_true.mp gwh42, List.forall_mem_cons.mpr ⟨List.all_eq_true.mp gwh43, List.forall_mem_cons.mpr ⟨List.all_eq_true.mp gwh44, List.forall_mem_cons.mpr ⟨List.all_eq_true.mp gwh45, List.forall_mem_cons.mpr ⟨List.all_eq_true.mp gwh46, List.forall_mem_cons.mpr ⟨gw_wx_good, fun _ h => absurd h List.not_mem_nil⟩⟩⟩⟩⟩⟩⟩⟩⟩⟩⟩⟩⟩⟩⟩⟩⟩⟩⟩⟩⟩⟩⟩⟩⟩⟩⟩⟩⟩⟩⟩⟩⟩⟩⟩⟩⟩⟩⟩⟩⟩⟩⟩⟩⟩⟩⟩⟩
theorem gw_good : ∀ w ∈ gw_ws, goodWord w = true := fun w hw => by
  rcases List.mem_append.mp hw with hw | hw
  · obtain ⟨l, hl, h⟩ := List.mem_flatten.mp hw
    exact gw_g0 l hl w h
  · obtain ⟨l, hl, h⟩ := List.mem_flatten.mp hw
    exact gw_g1 l hl w h
set_option maxRecDepth 100000 in
theorem gwx0 : Cond.classLink RX12 115 "java/lang/IllegalArgumentException" ∈ lw_tbl := pk_t6 _ (List.mem_of_getElem? (i := 186) rfl)
set_option maxRecDepth 100000 in
theorem gwx1 : Cond.initialized "java/lang/IllegalArgumentException" ∈ lw_tbl := pk_t1 _ (List.mem_of_getElem? (i := 20) rfl)
set_option maxRecDepth 100000 in
theorem gwx2 : Cond.classLink RX12 104 "java/lang/IllegalStateException" ∈ lw_tbl := pk_t6 _ (List.mem_of_getElem? (i := 108) rfl)
set_option maxRecDepth 100000 in
theorem gwx3 : Cond.initialized "java/lang/IllegalStateException" ∈ lw_tbl := pk_t1 _ (List.mem_of_getElem? (i := 19) rfl)
theorem gw_at1 : ∀ w ∈ px_atI.filter goodWord, w ∈ lw_tbl := by decide +kernel
theorem gw_at2 : ∀ w ∈ gt_atE.filter goodWord, w ∈ lw_tbl := by decide +kernel
theorem gw_wx_in : ∀ w ∈ gk_wx, w ∈ lw_tbl := List.forall_mem_append.mpr ⟨List.forall_mem_cons.mpr ⟨gwx0, List.forall_mem_cons.mpr ⟨gwx1, List.forall_mem_cons.mpr ⟨gwx2, List.forall_mem_cons.mpr ⟨gwx3, fun _ h => absurd h List.not_mem_nil⟩⟩⟩⟩, List.forall_mem_append.mpr ⟨gw_at1, gw_at2⟩⟩
set_option maxRecDepth 100000 in
theorem gw_i0 : ∀ l ∈ gc_wsl, ∀ w ∈ l, w ∈ lw_tbl := List.forall_mem_cons.mpr ⟨gwl0_all, List.forall_mem_cons.mpr ⟨gwl1_all, List.forall_mem_cons.mpr ⟨gwl2_all, List.forall_mem_cons.mpr ⟨gwl3_all, List.forall_mem_cons.mpr ⟨gwl4_all, List.forall_mem_cons.mpr ⟨gwl5_all, List.forall_mem_cons.mpr ⟨gwl6_all, List.forall_mem_cons.mpr ⟨gwl7_all, List.forall_mem_cons.mpr ⟨gwl8_all, List.forall_mem_cons.mpr ⟨gwl9_all, List.forall_mem_cons.mpr ⟨gwl10_all, List.forall_mem_cons.mpr ⟨gwl11_all, List.forall_mem_cons.mpr ⟨gwl12_all, List.forall_mem_cons.mpr ⟨gwl13_all, List.forall_mem_cons.mpr ⟨gwl14_all, List.forall_mem_cons.mpr ⟨gwl15_all, List.forall_mem_cons.mpr ⟨gwl16_all, List.forall_mem_cons.mpr ⟨gwl17_all, List.forall_mem_cons.mpr ⟨gwl18_all, List.forall_mem_cons.mpr ⟨gwl19_all, List.forall_mem_cons.mpr ⟨gwl20_all, List.forall_mem_cons.mpr ⟨gwl21_all, List.forall_mem_cons.mpr ⟨gwl22_all, List.forall_mem_cons.mpr ⟨gwl23_all, List.forall_mem_cons.mpr ⟨gwl24_all, List.forall_mem_cons.mpr ⟨gwl25_all, List.forall_mem_cons.mpr ⟨gwl26_all, fun _ h => absurd h List.not_mem_nil⟩⟩⟩⟩⟩⟩⟩⟩⟩⟩⟩⟩⟩⟩⟩⟩⟩⟩⟩⟩⟩⟩⟩⟩⟩⟩⟩
set_option maxRecDepth 100000 in
theorem gw_i1 : ∀ l ∈ gw_r, ∀ w ∈ l, w ∈ lw_tbl := List.forall_mem_cons.mpr ⟨gwl27_all, List.forall_mem_cons.mpr ⟨gwl28_all, List.forall_mem_cons.mpr ⟨gwl29_all, List.forall_mem_cons.mpr ⟨gwl30_all, List.forall_mem_cons.mpr ⟨gwl31_all, List.forall_mem_cons.mpr ⟨gwl36_all, List.forall_mem_cons.mpr ⟨gwl37_all, List.forall_mem_cons.mpr ⟨gwl38_all, List.forall_mem_cons.mpr ⟨gwl39_all, List.forall_mem_cons.mpr ⟨gwl40_all, List.forall_mem_cons.mpr ⟨gwl41_all, List.forall_mem_cons.mpr ⟨gwl42_all, List.forall_mem_cons.mpr ⟨gwl43_all, List.forall_mem_cons.mpr ⟨gwl44_all, List.forall_mem_cons.mpr ⟨gwl45_all, List.forall_mem_cons.mpr ⟨gwl46_all, List.forall_mem_cons.mpr ⟨gwl47_all, List.forall_mem_cons.mpr ⟨gwl48_all, List.forall_mem_cons.mpr ⟨gwl49_all, List.forall_mem_cons.mpr ⟨gwl50_all, List.forall_mem_cons.mpr ⟨gwl51_all, List.forall_mem_cons.mpr ⟨gwl52_all, List.forall_mem_cons.mpr ⟨gwl53_all, List.forall_mem_cons.mpr ⟨gwl54_all, List.forall_mem_cons.mpr ⟨gwl55_all, List.forall_mem_cons.mpr ⟨gwl56_all, List.forall_mem_cons.mpr ⟨gwl57_all, List.forall_mem_cons.mpr ⟨gwl58_all, List.forall_mem_cons.mpr ⟨gwl59_all, List.forall_mem_cons.mpr ⟨gwl60_all, List.forall_mem_cons.mpr ⟨gwl61_all, List.forall_mem_cons.mpr ⟨gwl62_all, List.forall_mem_cons.mpr ⟨gwl63_all, List.forall_mem_cons.mpr ⟨gwy0_all, List.forall_mem_cons.mpr ⟨gwy1_all, List.forall_mem_cons.mpr ⟨gwy2_all, List.forall_mem_cons.mpr ⟨gwy3_all, List.forall_mem_cons.mpr ⟨gwy4_all, List.forall_mem_cons.mpr ⟨gwy5_all, List.forall_mem_cons.mpr ⟨gwy6_all, List.forall_mem_cons.mpr ⟨gwy7_all, List.forall_mem_cons.mpr ⟨gwy8_all, List.forall_mem_cons.mpr ⟨gwy9_all, List.forall_mem_cons.mpr ⟨gwy10_all, List.forall_mem_cons.mpr ⟨gwy11_all, List.forall_mem_cons.mpr ⟨gwy12_all, List.forall_mem_cons.mpr ⟨gwy13_all, List.forall_mem_cons.mpr ⟨gw_wx_in, fun _ h => absurd h List.not_mem_nil⟩⟩⟩⟩⟩⟩⟩⟩⟩⟩⟩⟩⟩⟩⟩⟩⟩⟩⟩⟩⟩⟩⟩⟩⟩⟩⟩⟩⟩⟩⟩⟩⟩⟩⟩⟩⟩⟩⟩⟩⟩⟩⟩⟩⟩⟩⟩⟩
theorem gw_in : ∀ w ∈ gw_ws, w ∈ lw_tbl := fun w hw => by
  rcases List.mem_append.mp hw with hw | hw
  · obtain ⟨l, hl, h⟩ := List.mem_flatten.mp hw
    exact gw_i0 l hl w h
  · obtain ⟨l, hl, h⟩ := List.mem_flatten.mp hw
    exact gw_i1 l hl w h
def gf_o (ci : Nat) : String := match ci with
  | 0 => RX0
  | 1 => RX1
  | 2 => RX2
  | 3 => RX3
  | 4 => RX4
  | 5 => RX5
  | 6 => RX6
  | 7 => RX7
  | 8 => RX8
  | 9 => RX9
  | 10 => RX10
  | 11 => RX11
  | 12 => RX12
  | _ => RX13
def gf_u (ci : Nat) : List Cond := match ci with
  | 0 => u_ws RX0 TX0 22
  | 1 => u_ws RX1 TX1 19
  | 2 => u_ws RX2 TX2 10
  | 3 => u_ws RX3 TX3 16
  | 4 => u_ws RX4 TX4 2
  | 5 => u_ws RX5 TX5 19
  | 6 => u_ws RX6 TX6 19
  | 7 => u_ws RX7 TX7 14
  | 8 => u_ws RX8 TX8 21
  | 9 => u_ws RX9 TX9 10
  | 10 => u_ws RX10 TX10 19
  | 11 => u_ws RX11 TX11 16
  | 12 => u_ws RX12 TX12 17
  | _ => u_ws RX13 TX13 229
theorem gf_v {ci : Nat} (h : ci < 14) : ∃ C, vwCl[ci]? = some (C, gf_cl ci, gf_n ci) ∧ u_ws C (gf_cl ci) (gf_n ci) = gf_u ci ∧ (∀ k, k < gf_n ci → parseFieldDescriptor (gf_cl ci k).2.2.1 = some (gf_ty ci k)) ∧ (∀ a, a < gf_n ci → ∀ b, b < gf_n ci → a ≠ b → (gf_cl ci a).2.1 ≠ (gf_cl ci b).2.1) := by
  match ci, h with
  | 0, _ => exact ⟨RX0, rfl, rfl, tyX0_ok, nmX0⟩
  | 1, _ => exact ⟨RX1, rfl, rfl, tyX1_ok, nmX1⟩
  | 2, _ => exact ⟨RX2, rfl, rfl, tyX2_ok, nmX2⟩
  | 3, _ => exact ⟨RX3, rfl, rfl, tyX3_ok, nmX3⟩
  | 4, _ => exact ⟨RX4, rfl, rfl, tyX4_ok, nmX4⟩
  | 5, _ => exact ⟨RX5, rfl, rfl, tyX5_ok, nmX5⟩
  | 6, _ => exact ⟨RX6, rfl, rfl, tyX6_ok, nmX6⟩
  | 7, _ => exact ⟨RX7, rfl, rfl, tyX7_ok, nmX7⟩
  | 8, _ => exact ⟨RX8, rfl, rfl, tyX8_ok, nmX8⟩
  | 9, _ => exact ⟨RX9, rfl, rfl, tyX9_ok, nmX9⟩
  | 10, _ => exact ⟨RX10, rfl, rfl, tyX10_ok, nmX10⟩
  | 11, _ => exact ⟨RX11, rfl, rfl, tyX11_ok, nmX11⟩
  | 12, _ => exact ⟨RX12, rfl, rfl, tyX12_ok, nmX12⟩
  | 13, _ => exact ⟨RX13, rfl, rfl, tyX13_ok, nmX13⟩
theorem gf_uin {ci : Nat} (h : ci < 14) : ∀ w ∈ gf_u ci, w ∈ gw_ws := by
  match ci, h with
  | 0, _ => exact gw_at 33 rfl
  | 1, _ => exact gw_at 34 rfl
  | 2, _ => exact gw_at 35 rfl
  | 3, _ => exact gw_at 36 rfl
  | 4, _ => exact gw_at 37 rfl
  | 5, _ => exact gw_at 38 rfl
  | 6, _ => exact gw_at 39 rfl
  | 7, _ => exact gw_at 40 rfl
  | 8, _ => exact gw_at 41 rfl
  | 9, _ => exact gw_at 42 rfl
  | 10, _ => exact gw_at 43 rfl
  | 11, _ => exact gw_at 44 rfl
  | 12, _ => exact gw_at 45 rfl
  | 13, _ => exact gw_at 46 rfl
def gf_tc (t : Nat) (ty : FieldType) : Bool := match t, ty with
  | 0, .int => true
  | 1, .boolean => true
  | 2, .byte => true
  | 3, .long => true
  | 4, .object _ => true
  | 4, .array _ => true
  | _, _ => false
def gf_c4 (x : Nat × Nat × Nat × Nat) : Bool := decide (4 < x.2.2.2) || (!(gf_cl x.2.1 x.2.2.1).2.2.2 && gf_tc x.2.2.2 (gf_ty x.2.1 x.2.2.1))
def gf_c9 (x : Nat × Nat × Nat × Nat) : Bool := decide (x.2.2.2 < 10) || ((gf_cl x.2.1 x.2.2.1).2.2.2 && (decide ((gf_cl x.2.1 x.2.2.1).1 = gf_o x.2.1) && gf_tc (x.2.2.2 % 10) (gf_ty x.2.1 x.2.2.1)))
def gf_c (own : String) (x : Nat × Nat × Nat × Nat) : Bool := decide (10 ≤ x.2.2.2 → gf_o x.2.1 = own) && (decide (x.2.1 < 14) && (decide (x.2.2.1 < gf_n x.2.1) && (gf_c4 x && gf_c9 x)))
theorem gf_tc_ok {t : Nat} {ty : FieldType} (h : gf_tc t ty = true) : gz_ty t ty := by
  unfold gf_tc at h
  split at h
  · rfl
  · rfl
  · rfl
  · rfl
  · exact Or.inl ⟨_, rfl⟩
  · exact Or.inr ⟨_, rfl⟩
  · cases h
theorem gf_ok {own : String} {ft : List (Nat × Nat × Nat × Nat)} {ct : List (Nat × gz_V)} (hl : ∀ w ∈ gf_l own ft, w ∈ gw_ws) (hk : ∀ w ∈ gf_k own ct, w ∈ gw_ws) (hc : ft.all (gf_c own) = true) : gz_ok gw_ws own (gq_a ft, gq_a ct) := by
  refine ⟨fun ix ci k t h => ?_, fun ix z h => ?_, fun ix z h => ?_⟩
  · have hm := gq_a_mem h
    have h1 := List.all_eq_true.mp hc _ hm
    have hlk := hl _ (List.mem_map.mpr ⟨_, hm, rfl⟩)
    unfold gf_c at h1
    dsimp only at h1 hlk
    rw [Bool.and_eq_true, Bool.and_eq_true, Bool.and_eq_true, Bool.and_eq_true, decide_eq_true_eq, decide_eq_true_eq, decide_eq_true_eq] at h1
    obtain ⟨k0, k1, k2, k3, k4⟩ := h1
    unfold gf_c4 at k3
    unfold gf_c9 at k4
    dsimp only at k3 k4
    rw [Bool.or_eq_true, decide_eq_true_eq] at k3 k4
    obtain ⟨C, v1, v2, v3, v4⟩ := gf_v k1
    have hu : ∀ w ∈ u_ws C (gf_cl ci) (gf_n ci), w ∈ gw_ws := by
      rw [v2]
      exact gf_uin k1
    refine ⟨⟨C, gf_cl ci, gf_n ci, v1, k2, hu, hlk⟩, fun ht => ?_, fun ht => ?_⟩
    · rcases k3 with k3 | k3
      · omega
      · rw [Bool.and_eq_true, Bool.not_eq_true'] at k3
        exact ⟨gf_ty ci k, ⟨C, gf_cl ci, gf_n ci, gf_ty ci, v1, k2, hu, hlk, v3, v4, k3.1, rfl⟩, gf_tc_ok k3.2⟩
    · rcases k4 with k4 | k4
      · omega
      · rw [Bool.and_eq_true, Bool.and_eq_true, decide_eq_true_eq] at k4
        exact ⟨gf_ty ci k, ⟨C, gf_cl ci, gf_n ci, gf_ty ci, v1, k2, hu, hlk, v3, v4, k4.1, k4.2.1.trans (k0 ht), rfl⟩, gf_tc_ok k4.2.2⟩
  · exact hk _ (List.mem_map.mpr ⟨_, gq_a_mem h, rfl⟩)
  · exact hk _ (List.mem_map.mpr ⟨_, gq_a_mem h, rfl⟩)
theorem gf_no (ws0 : List Cond) (own : String) : gz_ok ws0 own (fun _ => none, fun _ => none) := ⟨fun _ _ _ _ h => (by cases h), fun _ _ h => (by cases h), fun _ _ h => (by cases h)⟩
set_option maxRecDepth 100000 in
theorem gft0 : gz_ok gw_ws RX0 (gq_a gc_f0, gq_a gc_k0) := gf_ok (gw_at 5 rfl) (gw_at 6 rfl) (by decide +kernel)
set_option maxRecDepth 100000 in
theorem gft1 : gz_ok gw_ws RX1 (gq_a gc_f1, gq_a gc_k1) := gf_ok (gw_at 7 rfl) (gw_at 8 rfl) (by decide +kernel)
set_option maxRecDepth 100000 in
theorem gft2 : gz_ok gw_ws RX2 (gq_a gc_f2, gq_a gc_k2) := gf_ok (gw_at 9 rfl) (gw_at 10 rfl) (by decide +kernel)
set_option maxRecDepth 100000 in
theorem gft3 : gz_ok gw_ws RX3 (gq_a gc_f3, gq_a gc_k3) := gf_ok (gw_at 11 rfl) (gw_at 12 rfl) (by decide +kernel)
set_option maxRecDepth 100000 in
theorem gft4 : gz_ok gw_ws RX4 (gq_a gc_f4, gq_a gc_k4) := gf_ok (gw_at 13 rfl) (gw_at 14 rfl) (by decide +kernel)
set_option maxRecDepth 100000 in
theorem gft5 : gz_ok gw_ws RX5 (gq_a gc_f5, gq_a gc_k5) := gf_ok (gw_at 15 rfl) (gw_at 16 rfl) (by decide +kernel)
set_option maxRecDepth 100000 in
theorem gft6 : gz_ok gw_ws RX6 (gq_a gc_f6, gq_a gc_k6) := gf_ok (gw_at 17 rfl) (gw_at 18 rfl) (by decide +kernel)
set_option maxRecDepth 100000 in
theorem gft7 : gz_ok gw_ws RX7 (gq_a gc_f7, gq_a gc_k7) := gf_ok (gw_at 19 rfl) (gw_at 20 rfl) (by decide +kernel)
set_option maxRecDepth 100000 in
theorem gft8 : gz_ok gw_ws RX8 (gq_a gc_f8, gq_a gc_k8) := gf_ok (gw_at 21 rfl) (gw_at 22 rfl) (by decide +kernel)
set_option maxRecDepth 100000 in
theorem gft9 : gz_ok gw_ws RX9 (gq_a gc_f9, gq_a gc_k9) := gf_ok (gw_at 23 rfl) (gw_at 24 rfl) (by decide +kernel)
set_option maxRecDepth 100000 in
theorem gft10 : gz_ok gw_ws RX10 (gq_a gc_f10, gq_a gc_k10) := gf_ok (gw_at 25 rfl) (gw_at 26 rfl) (by decide +kernel)
set_option maxRecDepth 100000 in
theorem gft11 : gz_ok gw_ws RX11 (gq_a gc_f11, gq_a gc_k11) := gf_ok (gw_at 27 rfl) (gw_at 28 rfl) (by decide +kernel)
set_option maxRecDepth 100000 in
theorem gft12 : gz_ok gw_ws RX12 (gq_a gc_f12, gq_a gc_k12) := gf_ok (gw_at 29 rfl) (gw_at 30 rfl) (by decide +kernel)
set_option maxRecDepth 100000 in
theorem gft13 : gz_ok gw_ws RX13 (gq_a gr_ft, gq_a gr_ct) := gf_ok (gw_at 31 rfl) (gw_at 32 rfl) (by decide +kernel)
def gw_tb (C : String) : gz_T := if C = RX0 then gc_T0 else if C = RX1 then gc_T1 else if C = RX2 then gc_T2 else if C = RX3 then gc_T3 else if C = RX4 then gc_T4 else if C = RX5 then gc_T5 else if C = RX6 then gc_T6 else if C = RX7 then gc_T7 else if C = RX8 then gc_T8 else if C = RX9 then gc_T9 else if C = RX10 then gc_T10 else if C = RX11 then gc_T11 else if C = RX12 then gc_T12 else if C = RX13 then gr_T else (fun _ => none, fun _ => none)
theorem gw_Tok (C : String) : gz_ok gw_ws C (gw_tb C) := by
  unfold gw_tb
  by_cases h0 : C = RX0
  · rw [if_pos h0]
    subst h0
    exact gft0
  by_cases h1 : C = RX1
  · rw [if_neg h0, if_pos h1]
    subst h1
    exact gft1
  by_cases h2 : C = RX2
  · rw [if_neg h0, if_neg h1, if_pos h2]
    subst h2
    exact gft2
  by_cases h3 : C = RX3
  · rw [if_neg h0, if_neg h1, if_neg h2, if_pos h3]
    subst h3
    exact gft3
  by_cases h4 : C = RX4
  · rw [if_neg h0, if_neg h1, if_neg h2, if_neg h3, if_pos h4]
    subst h4
    exact gft4
  by_cases h5 : C = RX5
  · rw [if_neg h0, if_neg h1, if_neg h2, if_neg h3, if_neg h4, if_pos h5]
    subst h5
    exact gft5
  by_cases h6 : C = RX6
  · rw [if_neg h0, if_neg h1, if_neg h2, if_neg h3, if_neg h4, if_neg h5, if_pos h6]
    subst h6
    exact gft6
  by_cases h7 : C = RX7
  · rw [if_neg h0, if_neg h1, if_neg h2, if_neg h3, if_neg h4, if_neg h5, if_neg h6, if_pos h7]
    subst h7
    exact gft7
  by_cases h8 : C = RX8
  · rw [if_neg h0, if_neg h1, if_neg h2, if_neg h3, if_neg h4, if_neg h5, if_neg h6, if_neg h7, if_pos h8]
    subst h8
    exact gft8
  by_cases h9 : C = RX9
  · rw [if_neg h0, if_neg h1, if_neg h2, if_neg h3, if_neg h4, if_neg h5, if_neg h6, if_neg h7, if_neg h8, if_pos h9]
    subst h9
    exact gft9
  by_cases h10 : C = RX10
  · rw [if_neg h0, if_neg h1, if_neg h2, if_neg h3, if_neg h4, if_neg h5, if_neg h6, if_neg h7, if_neg h8, if_neg h9, if_pos h10]
    subst h10
    exact gft10
  by_cases h11 : C = RX11
  · rw [if_neg h0, if_neg h1, if_neg h2, if_neg h3, if_neg h4, if_neg h5, if_neg h6, if_neg h7, if_neg h8, if_neg h9, if_neg h10, if_pos h11]
    subst h11
    exact gft11
  by_cases h12 : C = RX12
  · rw [if_neg h0, if_neg h1, if_neg h2, if_neg h3, if_neg h4, if_neg h5, if_neg h6, if_neg h7, if_neg h8, if_neg h9, if_neg h10, if_neg h11, if_pos h12]
    subst h12
    exact gft12
  by_cases h13 : C = RX13
  · rw [if_neg h0, if_neg h1, if_neg h2, if_neg h3, if_neg h4, if_neg h5, if_neg h6, if_neg h7, if_neg h8, if_neg h9, if_neg h10, if_neg h11, if_neg h12, if_pos h13]
    subst h13
    exact gft13
  rw [if_neg h0, if_neg h1, if_neg h2, if_neg h3, if_neg h4, if_neg h5, if_neg h6, if_neg h7, if_neg h8, if_neg h9, if_neg h10, if_neg h11, if_neg h12, if_neg h13]
  exact gf_no _ _
theorem gw_tb0 : gw_tb RX0 = gc_T0 := by
  unfold gw_tb
  rw [if_pos rfl]
theorem gw_tb1 : gw_tb RX1 = gc_T1 := by
  unfold gw_tb
  rw [if_neg (show ¬ RX1 = RX0 from by decide +kernel), if_pos rfl]
theorem gw_tb2 : gw_tb RX2 = gc_T2 := by
  unfold gw_tb
  rw [if_neg (show ¬ RX2 = RX0 from by decide +kernel), if_neg (show ¬ RX2 = RX1 from by decide +kernel), if_pos rfl]
theorem gw_tb3 : gw_tb RX3 = gc_T3 := by
  unfold gw_tb
  rw [if_neg (show ¬ RX3 = RX0 from by decide +kernel), if_neg (show ¬ RX3 = RX1 from by decide +kernel), if_neg (show ¬ RX3 = RX2 from by decide +kernel), if_pos rfl]
theorem gw_tb4 : gw_tb RX4 = gc_T4 := by
  unfold gw_tb
  rw [if_neg (show ¬ RX4 = RX0 from by decide +kernel), if_neg (show ¬ RX4 = RX1 from by decide +kernel), if_neg (show ¬ RX4 = RX2 from by decide +kernel), if_neg (show ¬ RX4 = RX3 from by decide +kernel), if_pos rfl]
theorem gw_tb5 : gw_tb RX5 = gc_T5 := by
  unfold gw_tb
  rw [if_neg (show ¬ RX5 = RX0 from by decide +kernel), if_neg (show ¬ RX5 = RX1 from by decide +kernel), if_neg (show ¬ RX5 = RX2 from by decide +kernel), if_neg (show ¬ RX5 = RX3 from by decide +kernel), if_neg (show ¬ RX5 = RX4 from by decide +kernel), if_pos rfl]
theorem gw_tb6 : gw_tb RX6 = gc_T6 := by
  unfold gw_tb
  rw [if_neg (show ¬ RX6 = RX0 from by decide +kernel), if_neg (show ¬ RX6 = RX1 from by decide +kernel), if_neg (show ¬ RX6 = RX2 from by decide +kernel), if_neg (show ¬ RX6 = RX3 from by decide +kernel), if_neg (show ¬ RX6 = RX4 from by decide +kernel), if_neg (show ¬ RX6 = RX5 from by decide +kernel), if_pos rfl]
theorem gw_tb7 : gw_tb RX7 = gc_T7 := by
  unfold gw_tb
  rw [if_neg (show ¬ RX7 = RX0 from by decide +kernel), if_neg (show ¬ RX7 = RX1 from by decide +kernel), if_neg (show ¬ RX7 = RX2 from by decide +kernel), if_neg (show ¬ RX7 = RX3 from by decide +kernel), if_neg (show ¬ RX7 = RX4 from by decide +kernel), if_neg (show ¬ RX7 = RX5 from by decide +kernel), if_neg (show ¬ RX7 = RX6 from by decide +kernel), if_pos rfl]
theorem gw_tb8 : gw_tb RX8 = gc_T8 := by
  unfold gw_tb
  rw [if_neg (show ¬ RX8 = RX0 from by decide +kernel), if_neg (show ¬ RX8 = RX1 from by decide +kernel), if_neg (show ¬ RX8 = RX2 from by decide +kernel), if_neg (show ¬ RX8 = RX3 from by decide +kernel), if_neg (show ¬ RX8 = RX4 from by decide +kernel), if_neg (show ¬ RX8 = RX5 from by decide +kernel), if_neg (show ¬ RX8 = RX6 from by decide +kernel), if_neg (show ¬ RX8 = RX7 from by decide +kernel), if_pos rfl]
theorem gw_tb9 : gw_tb RX9 = gc_T9 := by
  unfold gw_tb
  rw [if_neg (show ¬ RX9 = RX0 from by decide +kernel), if_neg (show ¬ RX9 = RX1 from by decide +kernel), if_neg (show ¬ RX9 = RX2 from by decide +kernel), if_neg (show ¬ RX9 = RX3 from by decide +kernel), if_neg (show ¬ RX9 = RX4 from by decide +kernel), if_neg (show ¬ RX9 = RX5 from by decide +kernel), if_neg (show ¬ RX9 = RX6 from by decide +kernel), if_neg (show ¬ RX9 = RX7 from by decide +kernel), if_neg (show ¬ RX9 = RX8 from by decide +kernel), if_pos rfl]
theorem gw_tb10 : gw_tb RX10 = gc_T10 := by
  unfold gw_tb
  rw [if_neg (show ¬ RX10 = RX0 from by decide +kernel), if_neg (show ¬ RX10 = RX1 from by decide +kernel), if_neg (show ¬ RX10 = RX2 from by decide +kernel), if_neg (show ¬ RX10 = RX3 from by decide +kernel), if_neg (show ¬ RX10 = RX4 from by decide +kernel), if_neg (show ¬ RX10 = RX5 from by decide +kernel), if_neg (show ¬ RX10 = RX6 from by decide +kernel), if_neg (show ¬ RX10 = RX7 from by decide +kernel), if_neg (show ¬ RX10 = RX8 from by decide +kernel), if_neg (show ¬ RX10 = RX9 from by decide +kernel), if_pos rfl]
theorem gw_tb11 : gw_tb RX11 = gc_T11 := by
  unfold gw_tb
  rw [if_neg (show ¬ RX11 = RX0 from by decide +kernel), if_neg (show ¬ RX11 = RX1 from by decide +kernel), if_neg (show ¬ RX11 = RX2 from by decide +kernel), if_neg (show ¬ RX11 = RX3 from by decide +kernel), if_neg (show ¬ RX11 = RX4 from by decide +kernel), if_neg (show ¬ RX11 = RX5 from by decide +kernel), if_neg (show ¬ RX11 = RX6 from by decide +kernel), if_neg (show ¬ RX11 = RX7 from by decide +kernel), if_neg (show ¬ RX11 = RX8 from by decide +kernel), if_neg (show ¬ RX11 = RX9 from by decide +kernel), if_neg (show ¬ RX11 = RX10 from by decide +kernel), if_pos rfl]
theorem gw_tb12 : gw_tb RX12 = gc_T12 := by
  unfold gw_tb
  rw [if_neg (show ¬ RX12 = RX0 from by decide +kernel), if_neg (show ¬ RX12 = RX1 from by decide +kernel), if_neg (show ¬ RX12 = RX2 from by decide +kernel), if_neg (show ¬ RX12 = RX3 from by decide +kernel), if_neg (show ¬ RX12 = RX4 from by decide +kernel), if_neg (show ¬ RX12 = RX5 from by decide +kernel), if_neg (show ¬ RX12 = RX6 from by decide +kernel), if_neg (show ¬ RX12 = RX7 from by decide +kernel), if_neg (show ¬ RX12 = RX8 from by decide +kernel), if_neg (show ¬ RX12 = RX9 from by decide +kernel), if_neg (show ¬ RX12 = RX10 from by decide +kernel), if_neg (show ¬ RX12 = RX11 from by decide +kernel), if_pos rfl]
theorem gw_tb13 : gw_tb RX13 = gr_T := by
  unfold gw_tb
  rw [if_neg (show ¬ RX13 = RX0 from by decide +kernel), if_neg (show ¬ RX13 = RX1 from by decide +kernel), if_neg (show ¬ RX13 = RX2 from by decide +kernel), if_neg (show ¬ RX13 = RX3 from by decide +kernel), if_neg (show ¬ RX13 = RX4 from by decide +kernel), if_neg (show ¬ RX13 = RX5 from by decide +kernel), if_neg (show ¬ RX13 = RX6 from by decide +kernel), if_neg (show ¬ RX13 = RX7 from by decide +kernel), if_neg (show ¬ RX13 = RX8 from by decide +kernel), if_neg (show ¬ RX13 = RX9 from by decide +kernel), if_neg (show ¬ RX13 = RX10 from by decide +kernel), if_neg (show ¬ RX13 = RX11 from by decide +kernel), if_neg (show ¬ RX13 = RX12 from by decide +kernel), if_pos rfl]
theorem gw_tbs : gc_tbs gw_tb := ⟨gw_tb0, gw_tb1, gw_tb2, gw_tb3, gw_tb4, gw_tb5, gw_tb6, gw_tb7, gw_tb8, gw_tb9, gw_tb10, gw_tb11, gw_tb12⟩
theorem gw_Wd : gl_Wd gw_ws gw_tb := ⟨⟨gw_Ws, gw_tbs, gw_Wr, gw_tb13, gw_Wc, gw_Wn⟩, gw_Wl⟩
theorem gw_K {l : Launch} {D : va_G} {cy : Nat → ClassId} {sa : Nat → Nat} {sv : Nat} (hst : l.stackTraces = false) : gl_K l D cy sa sv gw_ws gw_tb := ⟨gw_good, fun y _ _ _ _ _ => gw_Tok y.cls, fun d sh h c h8 hc => jx_met gw_Wj d sh h c h8 hc, hst, gw_Wx⟩
theorem gd_win : ∀ w ∈ gd_ws, w ∈ lw_tbl := List.forall_mem_append.mpr ⟨gwl33_all, List.forall_mem_append.mpr ⟨gwl32_all, List.forall_mem_append.mpr ⟨gwl34_all, List.forall_mem_append.mpr ⟨gwl35_all, gwy13_all⟩⟩⟩⟩
