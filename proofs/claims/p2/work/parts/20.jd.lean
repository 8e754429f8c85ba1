/-! METHODS OF THE JDK, over any cells. -/
def gj_Mi : gx_M := (yJ9_min_7cf53, cJ9_min_7cf53, 2, some .int)
def gj_Ml : gx_M := (yJ9_min_f86c9, cJ9_min_f86c9, 4, some .long)
def gj_Mx : gx_M := (yJ9_max_7cf53, cJ9_max_7cf53, 2, some .int)
theorem gj_min {ws0 : List Cond} {tb : String → gz_T} {sh : gz_Sh} {h : gz_H} (a b : Int) (ha : gz_R a) (hb : gz_R b) : ∃ z : Int, gz_Ev ws0 tb 1 gj_Mi [.inl a, .inl b] sh h (some (.inl z)) sh h 0 0 ∧ z ≤ a ∧ z ≤ b ∧ (z = a ∨ z = b) := by
  have hD : gv_D (ws0, gj_Mi.1.cls, tb gj_Mi.1.cls, gj_Mi.2.1, gj_Mi.2.2.1, gz_Ev ws0 tb 0, gq_c kJ9_min_7cf53) := gq_ok oJ9_min_7cf53
  obtain ⟨r, h', E, z, rfl, rfl, hz⟩ := gv_ev (ws0 := ws0) (tb := tb) (d := 0) (M := gj_Mi) (code := gq_c kJ9_min_7cf53) (av := [.inl a, .inl b]) (sh := sh) (h := h) (Po := fun r h' => ∃ z : Int, r = some (.inl z) ∧ h' = h ∧ z ≤ a ∧ z ≤ b ∧ (z = a ∨ z = b)) (Nat.le_of_ble_eq_true rfl) (by
    refine gv_run 2 true hD (pc' := 2) (lv' := [(0, .inl a), (1, .inl b)]) (st' := [.inl b, .inl a]) (h' := h) (C := ((True ∧ True) ∧ True)) rfl ⟨⟨trivial, trivial⟩, trivial⟩ ?_
    refine gv_icmp_gt (t := 9) hD rfl rfl ⟨ha, hb⟩ (fun c => ?_) (fun c => ?_)
    · refine gv_run 1 true hD (pc' := 10) (lv' := [(0, .inl a), (1, .inl b)]) (st' := [.inl b]) (h' := h) (C := (True ∧ True)) rfl ⟨trivial, trivial⟩ ?_
      exact gv_iret hD rfl ⟨_, rfl, rfl, by omega, by omega, by omega⟩
    · refine gv_run 2 true hD (pc' := 10) (lv' := [(0, .inl a), (1, .inl b)]) (st' := [.inl a]) (h' := h) (C := ((True ∧ True) ∧ True)) rfl ⟨⟨trivial, trivial⟩, trivial⟩ ?_
      exact gv_iret hD rfl ⟨_, rfl, rfl, by omega, by omega, by omega⟩)
  exact ⟨z, E, hz⟩
theorem gj_max {ws0 : List Cond} {tb : String → gz_T} {sh : gz_Sh} {h : gz_H} (a b : Int) (ha : gz_R a) (hb : gz_R b) : ∃ z : Int, gz_Ev ws0 tb 1 gj_Mx [.inl a, .inl b] sh h (some (.inl z)) sh h 0 0 ∧ a ≤ z ∧ b ≤ z ∧ (z = a ∨ z = b) := by
  have hD : gv_D (ws0, gj_Mx.1.cls, tb gj_Mx.1.cls, gj_Mx.2.1, gj_Mx.2.2.1, gz_Ev ws0 tb 0, gq_c kJ9_max_7cf53) := gq_ok oJ9_max_7cf53
  obtain ⟨r, h', E, z, rfl, rfl, hz⟩ := gv_ev (ws0 := ws0) (tb := tb) (d := 0) (M := gj_Mx) (code := gq_c kJ9_max_7cf53) (av := [.inl a, .inl b]) (sh := sh) (h := h) (Po := fun r h' => ∃ z : Int, r = some (.inl z) ∧ h' = h ∧ a ≤ z ∧ b ≤ z ∧ (z = a ∨ z = b)) (Nat.le_of_ble_eq_true rfl) (by
    refine gv_run 2 true hD (pc' := 2) (lv' := [(0, .inl a), (1, .inl b)]) (st' := [.inl b, .inl a]) (h' := h) (C := ((True ∧ True) ∧ True)) rfl ⟨⟨trivial, trivial⟩, trivial⟩ ?_
    refine gv_icmp_lt (t := 9) hD rfl rfl ⟨ha, hb⟩ (fun c => ?_) (fun c => ?_)
    · refine gv_run 1 true hD (pc' := 10) (lv' := [(0, .inl a), (1, .inl b)]) (st' := [.inl b]) (h' := h) (C := (True ∧ True)) rfl ⟨trivial, trivial⟩ ?_
      exact gv_iret hD rfl ⟨_, rfl, rfl, by omega, by omega, by omega⟩
    · refine gv_run 2 true hD (pc' := 10) (lv' := [(0, .inl a), (1, .inl b)]) (st' := [.inl a]) (h' := h) (C := ((True ∧ True) ∧ True)) rfl ⟨⟨trivial, trivial⟩, trivial⟩ ?_
      exact gv_iret hD rfl ⟨_, rfl, rfl, by omega, by omega, by omega⟩)
  exact ⟨z, E, hz⟩
theorem gj_minl {ws0 : List Cond} {tb : String → gz_T} {sh : gz_Sh} {h : gz_H} (a b : Int64) : ∃ z : Int64, gz_Ev ws0 tb 1 gj_Ml [.inr (.inl a), .inr (.inl b)] sh h (some (.inr (.inl z))) sh h 0 0 ∧ (z = a ∨ z = b) := by
  have hD : gv_D (ws0, gj_Ml.1.cls, tb gj_Ml.1.cls, gj_Ml.2.1, gj_Ml.2.2.1, gz_Ev ws0 tb 0, gq_c kJ9_min_f86c9) := gq_ok oJ9_min_f86c9
  have hc : -1 ≤ (lg_cmp a b).toInt ∧ (lg_cmp a b).toInt ≤ 1 := by
    unfold lg_cmp
    split
    · decide
    · split
      · decide
      · decide
  obtain ⟨r, h', E, z, rfl, rfl, hz⟩ := gv_ev (ws0 := ws0) (tb := tb) (d := 0) (M := gj_Ml) (code := gq_c kJ9_min_f86c9) (av := [.inr (.inl a), .inr (.inl b)]) (sh := sh) (h := h) (Po := fun r h' => ∃ z : Int64, r = some (.inr (.inl z)) ∧ h' = h ∧ (z = a ∨ z = b)) (Nat.le_of_ble_eq_true rfl) (by
    refine gv_run 3 true hD (pc' := 3) (lv' := [(0, .inr (.inl a)), (2, .inr (.inl b))]) (st' := [.inl ((lg_cmp a b).toInt)]) (h' := h) (C := (((True ∧ True) ∧ True) ∧ True)) rfl ⟨⟨⟨trivial, trivial⟩, trivial⟩, trivial⟩ ?_
    refine gv_if_gt (t := 10) hD rfl rfl ⟨by omega, by omega⟩ (fun c => ?_) (fun c => ?_)
    · refine gv_run 1 true hD (pc' := 11) (lv' := [(0, .inr (.inl a)), (2, .inr (.inl b))]) (st' := [.inr (.inl b)]) (h' := h) (C := (True ∧ True)) rfl ⟨trivial, trivial⟩ ?_
      exact gv_lret hD rfl ⟨_, rfl, rfl, Or.inr rfl⟩
    · refine gv_run 2 true hD (pc' := 11) (lv' := [(0, .inr (.inl a)), (2, .inr (.inl b))]) (st' := [.inr (.inl a)]) (h' := h) (C := ((True ∧ True) ∧ True)) rfl ⟨⟨trivial, trivial⟩, trivial⟩ ?_
      exact gv_lret hD rfl ⟨_, rfl, rfl, Or.inl rfl⟩)
  exact ⟨z, E, hz⟩
