/-! THE WORDS: one list for the class and the reference (the words of fields are still to be added). -/
def gk_wx : List Cond := [Cond.classLink RX12 115 "java/lang/IllegalArgumentException", Cond.initialized "java/lang/IllegalArgumentException", Cond.classLink RX12 104 "java/lang/IllegalStateException", Cond.initialized "java/lang/IllegalStateException"] ++ (px_atI.filter goodWord ++ gt_atE.filter goodWord)
def gk_w0 : List (List Cond) := gc_wsl ++ [gr_ws, gc_wcl, gc_wnl, u_ws RX3 TX3 16, u_ws RX4 TX4 2, u_ws RX2 TX2 10, u_ws RX11 TX11 16, gk_wx]
def gk_ws : List Cond := gk_w0.flatten
theorem gk_in {l : List Cond} (hl : l ∈ gk_w0) {w : Cond} (hw : w ∈ l) : w ∈ gk_ws := List.mem_flatten.mpr ⟨l, hl, hw⟩
theorem gk_Ws : gc_Ws gk_ws := fun l hl w hw => gk_in (List.mem_append_left _ hl) hw
theorem gk_at (i : Nat) {l : List Cond} (h : [gr_ws, gc_wcl, gc_wnl, u_ws RX3 TX3 16, u_ws RX4 TX4 2, u_ws RX2 TX2 10, u_ws RX11 TX11 16, gk_wx][i]? = some l) {w : Cond} (hw : w ∈ l) : w ∈ gk_ws := gk_in (List.mem_append_right _ (List.mem_of_getElem? h)) hw
theorem gk_Wr : ∀ w ∈ gr_ws, w ∈ gk_ws := fun _ h => gk_at 0 rfl h
theorem gk_Wc : gc_Wc gk_ws := fun _ h => gk_at 1 rfl h
theorem gk_Wn : gc_Wn gk_ws := ⟨fun _ h => gk_at 2 rfl h, fun _ h => gk_at 3 rfl h, fun _ h => gk_at 4 rfl h, fun _ h => gk_at 5 rfl h, fun _ h => gk_at 6 rfl h⟩
theorem gk_Wx : gt_Wx gk_ws :=
  ⟨⟨gk_at 7 rfl (List.mem_append_left _ (List.mem_of_getElem? (i := 0) rfl)), gk_at 7 rfl (List.mem_append_left _ (List.mem_of_getElem? (i := 1) rfl)), fun _ h => gk_at 7 rfl (List.mem_append_right _ (List.mem_append_left _ h))⟩,
    ⟨gk_at 7 rfl (List.mem_append_left _ (List.mem_of_getElem? (i := 2) rfl)), gk_at 7 rfl (List.mem_append_left _ (List.mem_of_getElem? (i := 3) rfl)), fun _ h => gk_at 7 rfl (List.mem_append_right _ (List.mem_append_right _ h))⟩⟩
theorem gk_good0 : (gc_wsl.flatten).all goodWord = true := by decide +kernel
theorem gk_good1 : gr_ws.all goodWord = true := by decide +kernel
theorem gk_good2 : ([gc_wcl, gc_wnl, u_ws RX3 TX3 16, u_ws RX4 TX4 2, u_ws RX2 TX2 10, u_ws RX11 TX11 16, gk_wx].flatten).all goodWord = true := by decide +kernel
theorem gk_good : ∀ w ∈ gk_ws, goodWord w = true := fun w hw => by
  obtain ⟨l, hl, h⟩ := List.mem_flatten.mp hw
  rcases List.mem_append.mp hl with h1 | h1
  · exact List.all_eq_true.mp gk_good0 w (List.mem_flatten.mpr ⟨l, h1, h⟩)
  · rcases List.mem_cons.mp h1 with rfl | h2
    · exact List.all_eq_true.mp gk_good1 w h
    · exact List.all_eq_true.mp gk_good2 w (List.mem_flatten.mpr ⟨l, h2, h⟩)
