/-! THE LAW FROM ITS START: the two objects, the array of answers, the loop, the end. -/
section LS
variable {p : Program} {l : Launch} {e : Env} {R : Room} {s : State} {m : MethodId} {args : Array Value} {below : List Frame} {meth : Method} {c : Code} {H H0 : Heap} {locs : List Loc} {cells slots : Nat} {Q : State → Prop}
variable {D : va_G} {cy : Nat → ClassId} {A : Nat → Prop} {L M : List Nat} {f g : Nat → va_E} {wr : va_W}
theorem gp_callv {pc mc ms : Nat} {ls : Array Slot} {st0 rest : List Value} {a : Array Value} {S : List Nat × (Nat → va_E) → Prop} (hw : gp_W D A s.heap (va_pl L f ++ wr) H locs)
    (hr : va_Run p l e R s m args below meth c H locs cells slots mc ms (F0 m pc ls st0) rest (va_Qv S (pw_B D (pw_A L f H.size)) (pw_A L f H.size) a) (pw_A L f H.size))
    (kk : ∀ (L1 : List Nat) (f1 : Nat → va_E) (H1 : Heap) (locs1 : List Loc), gp_W D A s.heap (va_pl L1 f1 ++ wr) H1 locs1 → S (L1, f1) → W p l e R s m args below meth c H1 locs1 (cells + mc) (slots + ms) Q (F0 m (pc + 3) ls rest)) : W p l e R s m args below meth c H locs cells slots Q (F0 m pc ls st0) := by
  refine va_callv hr hw.2.2.1 (fun q _ h => gp_sub hw q h) (gp_sub hw) (fun u t H1 locs1 ht hvm hp hB hz hk hS => ?_)
  obtain ⟨L1, f1⟩ := u
  obtain ⟨hP1, hD1⟩ := hB
  rw [ht] at hP1
  exact kk L1 f1 H1 locs1 (hw.back hP1 hD1 (fun q h1 h2 => hk q h1 h2) hS) hp
theorem gp_splitE {q : Nat} {x : va_E} (hq : q ∉ L) : va_pl (L ++ [q]) (va_up f q x) = va_pl L f ++ [(q, x)] := by
  show (L ++ [q]).map (fun a => (a, va_up f q x a)) = L.map (fun a => (a, f a)) ++ [(q, x)]
  rw [List.map_append]
  have e1 : L.map (fun a => (a, va_up f q x a)) = L.map (fun a => (a, f a)) := List.map_congr_left (fun a ha => by rw [va_up_ne _ _ (show a ≠ q from fun z => hq (by rw [← z]; exact ha))])
  rw [e1]
  show _ ++ [(q, va_up f q x q)] = _
  rw [va_up_self]
theorem gp_split {q : Nat} {x : va_E} (hq : q ∉ L) (hw : pw_W D A H0 (L ++ [q]) (va_up f q x) H locs) : gp_W D A H0 ([(q, x)] ++ va_pl L f) H locs := by
  have h : gp_W D A H0 (va_pl L f ++ [(q, x)]) H locs := by
    rw [← gp_splitE hq]
    exact hw
  exact h.comm
theorem gp_joinE (hw : gp_W D A H0 (va_pl L f ++ va_pl M g) H locs) : va_pl (L ++ M) (fun a => if a ∈ L then f a else g a) = va_pl L f ++ va_pl M g := by
  show (L ++ M).map (fun a => (a, if a ∈ L then f a else g a)) = L.map (fun a => (a, f a)) ++ M.map (fun a => (a, g a))
  rw [List.map_append]
  have e1 : L.map (fun a => (a, if a ∈ L then f a else g a)) = L.map (fun a => (a, f a)) := List.map_congr_left (fun a ha => by rw [if_pos ha])
  have e2 : M.map (fun a => (a, if a ∈ L then f a else g a)) = M.map (fun a => (a, g a)) := List.map_congr_left (fun a ha => by
    rw [if_neg (fun hL => ?_)]
    obtain ⟨i, hi, hi2⟩ := List.getElem_of_mem hL
    obtain ⟨j, hj, hj2⟩ := List.getElem_of_mem ha
    have h1 : (va_pl L f)[i]? = some (a, f a) := by
      show (L.map (fun a => (a, f a)))[i]? = _
      rw [List.getElem?_map, List.getElem?_eq_getElem hi, hi2]
      rfl
    have h2 : (va_pl M g)[j]? = some (a, g a) := by
      show (M.map (fun a => (a, g a)))[j]? = _
      rw [List.getElem?_map, List.getElem?_eq_getElem hj, hj2]
      rfl
    have h3 := hw.2.1.1 _ _ _ _ (gp_get_l h1) (gp_get_r (a := va_pl L f) h2) rfl
    have h4 := (List.getElem?_eq_some_iff.mp h1).1
    omega)
  rw [e1, e2]
theorem gp_join (hw : gp_W D A H0 (va_pl L f ++ va_pl M g) H locs) : pw_W D A H0 (L ++ M) (fun a => if a ∈ L then f a else g a) H locs := by
  have h := hw
  rw [← gp_joinE hw] at h
  exact h
theorem gp_reL (hg : ∀ a ∈ L, f a = g a) (hw : gp_W D A H0 (va_pl L f ++ wr) H locs) : gp_W D A H0 (va_pl L g ++ wr) H locs := by
  have e : va_pl L f = va_pl L g := List.map_congr_left (fun a ha => by rw [hg a ha])
  rw [← e]
  exact hw
end LS
set_option maxRecDepth 100000 in
theorem gsl_c13 : Cond.code yX13_init cX13_init 2 none ∈ lw_tbl := pk_t9 _ (List.mem_of_getElem? (i := 87) rfl)
set_option maxRecDepth 100000 in
theorem gsl_k12 : Cond.classLink RL 8 RX12 ∈ lw_tbl := pk_t1 _ (List.mem_of_getElem? (i := 28) rfl)
set_option maxRecDepth 100000 in
theorem gsl_n12 : Cond.instantiable RX12 17 ∈ lw_tbl := pk_t1 _ (List.mem_of_getElem? (i := 29) rfl)
set_option maxRecDepth 100000 in
theorem gsl_i12 : Cond.initialized RX12 ∈ lw_tbl := pk_t1 _ (List.mem_of_getElem? (i := 1) rfl)
set_option maxRecDepth 100000 in
theorem gsl_l12 : Cond.methodLink RL 91 yX12_init ∈ lw_tbl := pk_t1 _ (List.mem_of_getElem? (i := 30) rfl)
set_option maxRecDepth 100000 in
theorem gsl_m12 : Cond.instanceMethod yX12_init ∈ lw_tbl := pk_t1 _ (List.mem_of_getElem? (i := 31) rfl)
set_option maxRecDepth 100000 in
theorem gsl_k13 : Cond.classLink RL 92 RX13 ∈ lw_tbl := pk_t9 _ (List.mem_of_getElem? (i := 83) rfl)
set_option maxRecDepth 100000 in
theorem gsl_n13 : Cond.instantiable RX13 229 ∈ lw_tbl := pk_t9 _ (List.mem_of_getElem? (i := 84) rfl)
set_option maxRecDepth 100000 in
theorem gsl_i13 : Cond.initialized RX13 ∈ lw_tbl := pk_t1 _ (List.mem_of_getElem? (i := 11) rfl)
set_option maxRecDepth 100000 in
theorem gsl_l13 : Cond.methodLink RL 94 yX13_init ∈ lw_tbl := pk_t9 _ (List.mem_of_getElem? (i := 85) rfl)
set_option maxRecDepth 100000 in
theorem gsl_m13 : Cond.instanceMethod yX13_init ∈ lw_tbl := pk_t9 _ (List.mem_of_getElem? (i := 86) rfl)
set_option maxRecDepth 100000 in
theorem gsl_al : Cond.arrayClass .long ∈ lw_tbl := pk_t1 _ (List.mem_of_getElem? (i := 63) rfl)
theorem gd_GI : GoodIn lw_tbl (Cond.code yX13_init cX13_init 2 none :: gd_ws) := fun w hw => by
  rcases List.mem_cons.mp hw with rfl | hw
  · exact ⟨gsl_c13, good_of_word rfl⟩
  · exact ⟨gd_win w hw, good_of_word (gd_good w hw)⟩
set_option maxHeartbeats 16000000 in
set_option maxRecDepth 100000 in
theorem whole_start {p : Program} {e : Env} {s : State} {m : MethodId} {below : List Frame} {meth : Method} {c : Code} (l : Launch) (hst : l.stackTraces = false) {b L : Nat} {xs : Nat → Int32} (hL : L ≤ 384) (C0 : lw_At p s m meth c b L xs) : W p l e room_1 s m #[Value.ref b] below meth c s.heap [] 0 0 (lw_Z below #[Value.ref b] s) (entryFrame m ([Value.ref b] : List Value).toArray 8) := by
  obtain ⟨hx, hb, hr, hml, hown0, hts, hScr, hbl, hlocks, hgv⟩ := id C0
  have hown : s.vm.findClass RL = some m.cls := hown0
  have hnw : narrow_1.before #[Value.ref b] s = true := lc_r hgv
  have hpp := fun (w : Cond) (h : w ∈ gw_ws) => hts w (gw_in w h)
  obtain ⟨D, cy, hG⟩ := lc_G hts
  obtain ⟨sa, sv, hX⟩ := lc_Xs hts hnw
  obtain ⟨qa, va, hZ⟩ := lc_Zs hts hnw
  have hw : pw_W D (fun q : Nat => s.heap.size ≤ q) s.heap [] (fun _ => .inr (0, [])) s.heap [] := ⟨fun k q h => by simp [va_pl] at h, ⟨fun i j p q h => by simp [va_pl] at h, fun k q h => by simp [va_pl] at h⟩, va_S.rf, fun _ h => h⟩
  have hl := lv_entry ([.ref b]) (n := 8) (Nat.le_of_ble_eq_true rfl)
  rw [lg_entry_eq]
  generalize (lg_sl ([.ref b]) ++ List.replicate (8 - (lg_sl ([.ref b])).length) Slot.unset).toArray = ls at hl ⊢
  have hl : lv_has ls 8 [(0, .ref b)] := hl
  have dd := fun pc i h => gq_ok oL_law0 pc i h
  refine pw_new (ci := 12) (C := RX12) (T := TX12) (N := 17) (fs := [.null, .null, .null, .null, .null, .null, .null, .null, .null, .null, .null, .null, .null, .null, .null, .int 0, .null]) hx hb hts gwy12_all tyX12 tyX12_ok hown (hts _ gsl_k12) (hts _ gsl_n12) (hts _ gsl_i12) hG hw rfl bl_X12 (Nat.le_of_ble_eq_true rfl) (Nat.le_of_ble_eq_true rfl) (gx_d (dd 0 (.new 8) rfl) rfl rfl) (fun h0 H hq hw => ?_)
  have ha : h0 ∈ [] ++ [h0] := List.mem_append_right _ (List.mem_singleton.mpr rfl)
  refine W.widen (k := 1) (n := 17) (Nat.le_of_ble_eq_true rfl) (Nat.le_of_ble_eq_true rfl) ?_
  refine lv_dup hx hb (gx_d (dd 3 .dup rfl) rfl rfl) rfl ?_
  refine pw_callv hw (va_runI (As := []) (rest := [.ref h0]) ⟨hx, hb, hml, hown, hts⟩ (c_X12_init l D cy h0 H.size _ _ ha (va_up_self _ _ _)) (cwI 0 hts pl_X12 rfl rfl rfl (hts _ gsl_i12) (hts _ gsl_l12) (hts _ gsl_m12) rfl (by decide +kernel) ⟨Nat.le_of_ble_eq_true rfl, Nat.le_of_ble_eq_true rfl⟩) (pw_pre hG hw) rfl rfl hl.1 rfl (lv_room (Nat.le_of_ble_eq_true rfl)) (gx_d (dd 4 (.invokespecial 91) rfl) rfl rfl) ⟨Nat.le_of_ble_eq_true rfl, Nat.le_of_ble_eq_true rfl⟩) (fun L1 f1 H locs hw hS => ?_)
  have hpo : L1.length = gc_bs.length ∧ gz_al sa L1 0 = h0 ∧ ∀ a ∈ L1, f1 a = gz_f cy sa L1 gc_bs gl_h12 a := by
    refine Exists.elim hS (fun q1 hS => ?_)
    refine Exists.elim hS (fun q2 hS => ?_)
    refine Exists.elim hS (fun q3 hS => ?_)
    refine Exists.elim hS (fun q4 hS => ?_)
    refine Exists.elim hS (fun q5 hS => ?_)
    refine Exists.elim hS (fun q6 hS => ?_)
    refine Exists.elim hS (fun q7 hS => ?_)
    refine Exists.elim hS (fun q8 hS => ?_)
    refine Exists.elim hS (fun q9 hS => ?_)
    refine Exists.elim hS (fun q10 hS => ?_)
    refine Exists.elim hS (fun q11 hS => ?_)
    refine Exists.elim hS (fun q12 hS => ?_)
    refine Exists.elim hS (fun q13 hS => ?_)
    refine Exists.elim hS (fun q14 hS => ?_)
    refine Exists.elim hS (fun q15 hS => ?_)
    refine Exists.elim hS (fun q16 hS => ?_)
    refine Exists.elim hS (fun q17 hS => ?_)
    refine Exists.elim hS (fun q18 hS => ?_)
    refine Exists.elim hS (fun q19 hS => ?_)
    refine Exists.elim hS (fun q20 hS => ?_)
    refine Exists.elim hS (fun q21 hS => ?_)
    refine Exists.elim hS (fun q22 hS => ?_)
    refine Exists.elim hS (fun q23 hS => ?_)
    refine Exists.elim hS (fun q24 hS => ?_)
    refine Exists.elim hS (fun q25 hS => ?_)
    refine Exists.elim hS (fun q26 hS => ?_)
    refine Exists.elim hS (fun q27 hS => ?_)
    refine Exists.elim hS (fun q28 hS => ?_)
    refine Exists.elim hS (fun q29 hS => ?_)
    refine Exists.elim hS (fun q30 hS => ?_)
    refine Exists.elim hS (fun q31 hS => ?_)
    refine Exists.elim hS (fun q32 hS => ?_)
    refine Exists.elim hS (fun q33 hS => ?_)
    refine Exists.elim hS (fun q34 hS => ?_)
    refine Exists.elim hS (fun q35 hS => ?_)
    refine Exists.elim hS (fun q36 hS => ?_)
    refine Exists.elim hS (fun q37 hS => ?_)
    refine Exists.elim hS (fun q38 hS => ?_)
    refine Exists.elim hS (fun q39 hS => ?_)
    refine Exists.elim hS (fun q40 hS => ?_)
    refine Exists.elim hS (fun q41 hS => ?_)
    refine Exists.elim hS (fun q42 hS => ?_)
    refine Exists.elim hS (fun q43 hS => ?_)
    refine Exists.elim hS (fun q44 hS => ?_)
    refine Exists.elim hS (fun q45 hS => ?_)
    refine Exists.elim hS (fun q46 hS => ?_)
    refine Exists.elim hS (fun q47 hS => ?_)
    refine Exists.elim hS (fun q48 hS => ?_)
    refine Exists.elim hS (fun q49 hS => ?_)
    refine Exists.elim hS (fun q50 hS => ?_)
    refine Exists.elim hS (fun q51 hS => ?_)
    refine Exists.elim hS (fun q52 hS => ?_)
    refine Exists.elim hS (fun q53 hS => ?_)
    refine Exists.elim hS (fun q54 hS => ?_)
    refine Exists.elim hS (fun q55 hS => ?_)
    refine Exists.elim hS (fun q56 hS => ?_)
    refine Exists.elim hS (fun q57 hS => ?_)
    refine Exists.elim hS (fun q58 hS => ?_)
    refine Exists.elim hS (fun q59 hS => ?_)
    refine Exists.elim hS (fun q60 hS => ?_)
    refine Exists.elim hS (fun q61 hS => ?_)
    refine Exists.elim hS (fun q62 hS => ?_)
    refine Exists.elim hS (fun q63 hS => ?_)
    refine Exists.elim hS (fun q64 hS => ?_)
    refine Exists.elim hS (fun q65 hS => ?_)
    refine Exists.elim hS (fun q66 hS => ?_)
    refine Exists.elim hS (fun q67 hS => ?_)
    refine Exists.elim hS (fun q68 hS => ?_)
    refine Exists.elim hS (fun q69 hS => ?_)
    refine Exists.elim hS (fun q70 hS => ?_)
    refine Exists.elim hS (fun q71 hS => ?_)
    refine Exists.elim hS (fun q72 hS => ?_)
    refine Exists.elim hS (fun q73 hS => ?_)
    refine Exists.elim hS (fun q74 hS => ?_)
    refine Exists.elim hS (fun q75 hS => ?_)
    refine Exists.elim hS (fun q76 hS => ?_)
    refine Exists.elim hS (fun q77 hS => ?_)
    refine Exists.elim hS (fun q78 hS => ?_)
    refine Exists.elim hS (fun q79 hS => ?_)
    refine Exists.elim hS (fun q80 hS => ?_)
    refine Exists.elim hS (fun q81 hS => ?_)
    refine Exists.elim hS (fun q82 hS => ?_)
    refine Exists.elim hS (fun q83 hS => ?_)
    refine Exists.elim hS (fun q84 hS => ?_)
    refine Exists.elim hS (fun q85 hS => ?_)
    refine Exists.elim hS (fun q86 hS => ?_)
    refine Exists.elim hS (fun q87 hS => ?_)
    refine Exists.elim hS (fun q88 hS => ?_)
    refine Exists.elim hS (fun q89 hS => ?_)
    refine Exists.elim hS (fun q90 hS => ?_)
    refine Exists.elim hS (fun q91 hS => ?_)
    refine Exists.elim hS (fun q92 hS => ?_)
    refine Exists.elim hS (fun q93 hS => ?_)
    refine Exists.elim hS (fun q94 hS => ?_)
    refine Exists.elim hS (fun q95 hS => ?_)
    refine Exists.elim hS (fun q96 hS => ?_)
    refine Exists.elim hS (fun q97 hS => ?_)
    refine Exists.elim hS (fun q98 hS => ?_)
    refine Exists.elim hS (fun q99 hS => ?_)
    refine Exists.elim hS (fun q100 hS => ?_)
    refine Exists.elim hS (fun q101 hS => ?_)
    refine Exists.elim hS (fun q102 hS => ?_)
    refine Exists.elim hS (fun q103 hS => ?_)
    refine Exists.elim hS (fun q104 hS => ?_)
    refine Exists.elim hS (fun q105 hS => ?_)
    refine Exists.elim hS (fun q106 hS => ?_)
    refine Exists.elim hS (fun q107 hS => ?_)
    refine Exists.elim hS (fun q108 hS => ?_)
    refine Exists.elim hS (fun q109 hS => ?_)
    refine Exists.elim hS (fun q110 hS => ?_)
    refine Exists.elim hS (fun q111 hS => ?_)
    refine Exists.elim hS (fun q112 hS => ?_)
    refine Exists.elim hS (fun q113 hS => ?_)
    refine Exists.elim hS (fun q114 hS => ?_)
    refine Exists.elim hS (fun q115 hS => ?_)
    refine Exists.elim hS (fun q116 hS => ?_)
    refine Exists.elim hS (fun q117 hS => ?_)
    refine Exists.elim hS (fun q118 hS => ?_)
    have hN := pw_N.cast lc_news hS
    exact gl_p12 (cy := cy) (sa := sa) (fun i => [h0, q1, q2, q3, q4, q5, q6, q7, q8, q9, q10, q11, q12, q13, q14, q15, q16, q17, q18, q19, q20, q21, q22, q23, q24, q25, q26, q27, q28, q29, q30, q31, q32, q33, q34, q35, q36, q37, q38, q39, q40, q41, q42, q43, q44, q45, q46, q47, q48, q49, q50, q51, q52, q53, q54, q55, q56, q57, q58, q59, q60, q61, q62, q63, q64, q65, q66, q67, q68, q69, q70, q71, q72, q73, q74, q75, q76, q77, q78, q79, q80, q81, q82, q83, q84, q85, q86, q87, q88, q89, q90, q91, q92, q93, q94, q95, q96, q97, q98, q99, q100, q101, q102, q103, q104, q105, q106, q107, q108, q109, q110, q111, q112, q113, q114, q115, q116, q117, q118].getD i 0) (pw_nd hw) hN.1 hN.2.1 hN.2.2.1
  clear hS
  obtain ⟨hLc, hac, hfc⟩ := hpo
  have hw := gp_re hw hfc
  refine W.widen (k := 144) (n := 318359) (Nat.le_of_ble_eq_true rfl) (Nat.le_of_ble_eq_true rfl) ?_
  refine lv_astore_n (lv' := [(1, .ref h0), (0, .ref b)]) hx hb (gx_d (dd 7 (.astore_n 1) rfl) rfl rfl) rfl hl (by decide) rfl (fun ls hl => ?_)
  refine pw_new (ci := 13) (C := RX13) (T := TX13) (N := 229) (fs := gd_blank) hx hb hts gwy13_all tyX13 tyX13_ok hown (hts _ gsl_k13) (hts _ gsl_n13) (hts _ gsl_i13) hG hw rfl gd_blank_ok (Nat.le_of_ble_eq_true rfl) (Nat.le_of_ble_eq_true rfl) (gx_d (dd 8 (.new 92) rfl) rfl rfl) (fun m0 H hq2 hw => ?_)
  refine W.widen (k := 145) (n := 318588) (Nat.le_of_ble_eq_true rfl) (Nat.le_of_ble_eq_true rfl) ?_
  have hw : gp_W D (fun q : Nat => s.heap.size ≤ q) s.heap (va_pl [m0] (fun _ => .inr (13, gd_blank)) ++ va_pl L1 (gz_f cy sa L1 gc_bs gl_h12)) H locs := gp_split hq2 hw
  refine lv_dup hx hb (gx_d (dd 11 .dup rfl) rfl rfl) rfl ?_
  refine gp_callv hw (va_runI (As := []) (rest := [.ref m0]) ⟨hx, hb, hml, hown, hts⟩ (gd_X13 l D cy sa qa va m0 H.size (fun _ => .inr (13, gd_blank)) rfl) (cwI 0 hts gd_GI rfl rfl rfl (hts _ gsl_i13) (hts _ gsl_l13) (hts _ gsl_m13) rfl (by decide +kernel) ⟨Nat.le_of_ble_eq_true rfl, Nat.le_of_ble_eq_true rfl⟩) (gd_pre hG hZ hX.2.2.2 hw.pw) rfl rfl hl.1 rfl (lv_room (Nat.le_of_ble_eq_true rfl)) (gx_d (dd 12 (.invokespecial 94) rfl) rfl rfl) ⟨Nat.le_of_ble_eq_true rfl, Nat.le_of_ble_eq_true rfl⟩) (fun Lr fr H locs hw hS => ?_)
  obtain ⟨hLr, har, hfr⟩ := hS
  dsimp only at hLr har hfr
  refine W.widen (k := 283) (n := 1296536) (Nat.le_of_ble_eq_true rfl) (Nat.le_of_ble_eq_true rfl) ?_
  have hw := (gp_reL hfr hw).comm
  have eJ := gp_joinE hw
  have hw := gp_join hw
  refine lv_astore_n (lv' := [(2, .ref m0), (1, .ref h0), (0, .ref b)]) hx hb (gx_d (dd 15 (.astore_n 2) rfl) rfl rfl) rfl hl (by decide) rfl (fun ls hl => ?_)
  refine lv_iconst (v := 1) hx hb (gx_d (dd 16 (.iconst 1) rfl) rfl rfl) (by decide) ?_
  refine pw_newa (atype := .long) (t0 := 2) (cA := cy 2) (ty := .long) (N' := 1) (a0 := (1, .inr (.inl (fun _ => 0)))) hx hb (hts _ gsl_al) rfl hG rfl (fun _ h => h) hw (fun _ => rfl) (by decide) (by decide) (Nat.le_of_ble_eq_true rfl) (Nat.le_of_ble_eq_true rfl) (Nat.le_of_ble_eq_true rfl) (gx_d (dd 17 (.newarray .long) rfl) rfl rfl) (fun ou H hq3 hw => ?_)
  refine W.widen (k := 284) (n := 1296537) (Nat.le_of_ble_eq_true rfl) (Nat.le_of_ble_eq_true rfl) ?_
  have hw := gp_split hq3 hw
  rw [eJ] at hw
  have hw : gp_W D (fun q : Nat => s.heap.size ≤ q) s.heap (gl_w cy sa ou (fun _ => 0) L1 gc_bs (gc_h gc_bs gk_I0 gk_J0 gk_A0) Lr (gr_h gq_I0 gd_J0)) H locs := by
    unfold gl_w
    rw [List.append_nil]
    exact hw
  refine lv_astore_n (lv' := [(3, .ref ou), (2, .ref m0), (1, .ref h0), (0, .ref b)]) hx hb (gx_d (dd 19 (.astore_n 3) rfl) rfl rfl) rfl hl (by decide) rfl (fun ls hl => ?_)
  refine lv_iconst (v := Int32.ofInt ((0 : Nat) : Int)) hx hb (gx_d (dd 20 (.iconst 0) rfl) rfl rfl) rfl ?_
  refine lv_istore (lv' := [(4, .int (Int32.ofInt ((0 : Nat) : Int))), (3, .ref ou), (2, .ref m0), (1, .ref h0), (0, .ref b)]) hx hb (gx_d (dd 21 (.istore 4) rfl) rfl rfl) hl (by decide) rfl (fun ls hl => ?_)
  have hend : ∀ (H : Heap) (locs : List Loc) (ls : Array Slot) (cells slots : Nat), (∀ q ∈ locs, s.heap.size ≤ q.base) → cells ≤ 284 + 12000 → slots ≤ 1296537 + 480000 → W p l e room_1 s m #[Value.ref b] below meth c H locs cells slots (lw_Z below #[Value.ref b] s) (F0 m 1252 ls []) := fun H locs ls cells slots hlo hc hs => by
    refine lv_iconst (v := 1) hx hb (gx_d (gq_ok oL_law12 1252 (.iconst 1) rfl) rfl rfl) (by decide) ?_
    refine va_forget hlo ?_
    refine W.widen (k := 600128) (n := 7301098) (by omega) (by omega) ?_
    exact lw_ret hx hb hr hlocks (gx_d (gq_ok oL_law12 1253 (.ireturn) rfl) rfl rfl)
  have K : gl_A p l s m meth c b L xs D cy sa sv gw_ws gw_tb room_1 284 1296537 := ⟨⟨hx, hb, hml, hown, hpp⟩, ⟨hScr, hL, hbl⟩, hG, hX, gw_K hst, gw_Wd, by decide, by decide, by decide, by decide⟩
  exact law_loop K hend 64 0 rfl 0 0 gc_bs gk_r0 gk_I0 gk_J0 gk_A0 gq_I0 gd_J0 L1 Lr (fun _ => 0) H locs ls 284 1296537 (gp_P0 gd_KW) ⟨hLc, by rw [List.append_nil]; exact hLr, hac, har⟩ hw hl (Nat.le_refl _) (Nat.le_refl _)
