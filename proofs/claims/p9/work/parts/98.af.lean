/-! THE REFERENCE'S CONSTRUCTOR, whole: its pool is the one of the script's start. -/
theorem gp_re {D : va_G} {A : Nat → Prop} {H0 H : Heap} {locs : List Loc} {L : List Nat} {f g : Nat → va_E} (hw : pw_W D A H0 L f H locs) (hg : ∀ a ∈ L, f a = g a) : pw_W D A H0 L g H locs := by
  have e : va_pl L f = va_pl L g := List.map_congr_left (fun a ha => by rw [hg a ha])
  obtain ⟨h1, h2, h3⟩ := hw
  rw [e] at h1 h2
  exact ⟨h1, h2, h3⟩
def gd_F0 : List gz_V := [.inl 0, .inl 0, .inl 0, .inl 0, .inl 0, .inl 0, .inl 0, .inr (.inr none), .inr (.inr none), .inr (.inr none), .inr (.inr none), .inr (.inr none), .inr (.inr none), .inr (.inr none), .inr (.inr none), .inr (.inr none), .inr (.inr none), .inr (.inr none), .inr (.inr none), .inr (.inr none), .inr (.inr none), .inr (.inr none), .inr (.inr none), .inr (.inr none), .inr (.inr none), .inr (.inr none), .inr (.inr none), .inr (.inr none), .inr (.inr none), .inr (.inr none), .inr (.inr none), .inr (.inr none), .inr (.inr none), .inr (.inr none), .inr (.inr none), .inr (.inr none), .inr (.inr none), .inr (.inr none), .inr (.inr none), .inr (.inr none), .inr (.inr none), .inr (.inr none), .inl 0, .inr (.inr none), .inr (.inr none), .inr (.inr none), .inr (.inr none), .inr (.inr none), .inr (.inr none), .inr (.inr none), .inr (.inr none), .inr (.inr none), .inr (.inr none), .inr (.inr none), .inr (.inr none), .inr (.inr none), .inr (.inr none), .inr (.inr none), .inr (.inr none), .inl 0, .inr (.inr none), .inr (.inr none), .inr (.inr none), .inr (.inr none), .inl 0, .inr (.inr none), .inr (.inr none), .inr (.inr none), .inl 0, .inl 0, .inl 0, .inl 0, .inl 0, .inl 0, .inl 0, .inr (.inl 0), .inl 0, .inl 0, .inl 0, .inl 0, .inr (.inl 0), .inr (.inl 0), .inr (.inl 0), .inr (.inl 0), .inr (.inl 0), .inr (.inl 0), .inr (.inl 0), .inr (.inl 0), .inr (.inl 0), .inr (.inl 0), .inr (.inl 0), .inr (.inl 0), .inr (.inl 0), .inr (.inl 0), .inr (.inl 0), .inr (.inl 0), .inr (.inl 0), .inr (.inr none), .inr (.inr none), .inl 0, .inl 0, .inl 0, .inr (.inr none), .inr (.inr none), .inl 0, .inr (.inr none), .inl 0, .inr (.inr none), .inr (.inr none), .inr (.inr none), .inr (.inr none), .inr (.inr none), .inr (.inr none), .inr (.inr none), .inr (.inr none), .inr (.inr none), .inr (.inr none), .inr (.inr none), .inl 0, .inl 0, .inl 0, .inr (.inr none), .inl 0, .inl 0, .inr (.inr none), .inr (.inr none), .inl 0, .inl 0, .inl 0, .inr (.inr none), .inr (.inr none), .inr (.inr none), .inl 0, .inl 0, .inr (.inr none), .inr (.inr none), .inl 0, .inl 0, .inl 0, .inr (.inr none), .inr (.inr none), .inr (.inr none), .inr (.inr none), .inl 0, .inr (.inr none), .inr (.inr none), .inr (.inr none), .inr (.inr none), .inr (.inr none), .inr (.inr none), .inr (.inr none), .inr (.inr none), .inr (.inr none), .inr (.inr none), .inr (.inr none), .inr (.inr none), .inr (.inr none), .inl 0, .inl 0, .inl 0, .inl 0, .inl 0, .inr (.inr none), .inr (.inr none), .inr (.inr none), .inr (.inr none), .inl 0, .inl 0, .inl 0, .inl 0, .inl 0, .inr (.inr none), .inr (.inr none), .inr (.inr none), .inr (.inr none), .inr (.inr none), .inr (.inr none), .inl 0, .inl 0, .inl 0, .inl 0, .inr (.inl 0), .inr (.inl 0), .inr (.inr none), .inr (.inr none), .inr (.inr none), .inl 0, .inr (.inr none), .inl 0, .inr (.inr none), .inr (.inr none), .inr (.inr none), .inr (.inr none), .inr (.inr none), .inr (.inr none), .inr (.inr none), .inr (.inr none), .inr (.inr none), .inr (.inr none), .inr (.inr none), .inr (.inr none), .inl 0, .inr (.inr none), .inr (.inr none), .inr (.inr none), .inr (.inr none), .inl 0, .inr (.inr none), .inr (.inr none), .inr (.inr none), .inr (.inr none), .inl 0, .inr (.inr none), .inr (.inr none), .inr (.inr none), .inr (.inr none), .inl 0, .inl 0, .inl 0, .inr (.inr none), .inl 0, .inl 0, .inr (.inl 0), .inr (.inl 0), .inr (.inl 0), .inr (.inl 0), .inr (.inl 0), .inr (.inl 0), .inr (.inl 0)]
def gd_m10 : gd_It := .inl (0, 0, 96, 1, 16, 47)
set_option maxRecDepth 100000 in
theorem gd_m10_in : gd_m10 ∈ gd_it := List.mem_of_getElem? (i := 10) rfl
def gd_sh0 : gz_Sh := [(false, 13, 229)]
def gd_blank : List Value := (List.range 229).map (fun k => gz_r (fun _ => 0) [] (gd_F0.getD k (.inl 0)))
theorem gd_blank_ok : ∀ j, j < 229 → defaultValue (tyX13 j) = vp_V gd_blank j := by decide +kernel
theorem gd_nr : ∀ k, k < 229 → gz_A (gd_F0.getD k (.inl 0)) = none := by decide +kernel
theorem gd_r_nr {sa sb : Nat → Nat} {L M : List Nat} {v : gz_V} (h : gz_A v = none) : gz_r sa L v = gz_r sb M v := by
  rcases v with z | x | o
  · rfl
  · rfl
  · cases o with
    | none => rfl
    | some i => cases h
theorem gd_blank_eq (sa : Nat → Nat) (L : List Nat) : (List.range 229).map (fun k => gz_r sa L (gd_H gd_F0 gd_sh0 0 k)) = gd_blank := List.map_congr_left (fun k hk => gd_r_nr (gd_nr k (List.mem_range.mp hk)))
theorem gd_F0n : ∀ v ∈ gd_F0, gz_A v = none := by decide +kernel
theorem gd_okn {n : Nat} {v : gz_V} (h : gz_A v = none) : gz_okv n v := by
  rcases v with z | x | o
  · trivial
  · trivial
  · cases o with
    | none => trivial
    | some i => cases h
theorem gd_J00 : gd_J gd_F0 gd_sh0 := ⟨rfl, rfl, fun v hv => gd_okn (gd_F0n v hv), by decide⟩
def gd_F9 : List gz_V := (gd_st gd_it (gd_F0, gd_sh0)).1
theorem gd_e1 : gd_end 4 gd_it = 1433 := by decide +kernel
theorem gd_e2 : gd_cl gd_it = 138 := by decide +kernel
theorem gd_e3 : gd_sl gd_it = 977948 := by decide +kernel
theorem gd_e4 : (gd_st gd_it (gd_F0, gd_sh0)).2 = gr_sh := by decide +kernel
theorem gd_e5 : gd_F9.getD 16 (.inl 0) = .inr (.inr (some 10)) := by decide +kernel
theorem gd_e6 : gd_it.length = 166 := by decide +kernel
def gd_J0 : gr_J := fun a k => match a with
  | 0 => gz_J (gd_F9.getD k (.inl 0))
  | _ + 1 => 0
theorem gd_KW0 : ∀ k : Nat, k < 97 → 80 ≤ k → gd_J0 0 k = gs_W k := by decide +kernel
theorem gd_KW : gr_KW gd_J0 := fun k h1 h2 => gd_KW0 k (by omega) h1
def gd_K9 (j : Nat) : gz_H := fun a k => if a = 10 ∧ k < j then .inl (-1) else gd_H gd_F9 gr_sh a k
theorem gd_K90 : gd_K9 0 = gd_H gd_F9 gr_sh := by
  funext a k
  unfold gd_K9
  rw [if_neg (by omega)]
theorem gd_K9s (j : Nat) : gz_up (gd_K9 j) 10 j (.inl (-1)) = gd_K9 (j + 1) := by
  funext a k
  unfold gz_up gd_K9
  by_cases h1 : a = 10
  · rw [if_pos h1]
    by_cases h2 : k = j
    · rw [if_pos h2, if_pos ⟨h1, by omega⟩]
    · rw [if_neg h2]
      by_cases h3 : k < j
      · rw [if_pos ⟨h1, h3⟩, if_pos ⟨h1, by omega⟩]
      · rw [if_neg (fun q => h3 q.2), if_neg (fun q => h3 (by omega))]
  · rw [if_neg h1, if_neg (fun q => h1 q.1), if_neg (fun q => h1 q.1)]
theorem gd_c0 : ∀ k, k < 229 → gd_F9.getD k (.inl 0) = gr_h gq_I0 gd_J0 0 k := by decide +kernel
theorem gd_c1 : ∀ a, a < 138 → ((gr_sh.getD (a + 1) (true, 0, 0)).2.1 = 2 ∧ gr_nth gr_al a = 1 ∧ a ≠ 9) ∨ ((gr_sh.getD (a + 1) (true, 0, 0)).2.1 ≠ 2 ∧ gr_nth gr_al a = 0) := by decide +kernel
theorem gd_c2 {a k : Nat} (ha : a < 138) : gd_K9 96 (a + 1) k = gr_h gq_I0 gd_J0 (a + 1) k := by
  have e : gr_h gq_I0 gd_J0 (a + 1) k = (match gr_nth gr_al a with
    | 0 => .inl (if a = 9 ∧ k < 96 then -1 else 0)
    | 1 => .inr (.inl 0)
    | w + 2 => .inr (.inr (some w))) := rfl
  have e2 : gd_H gd_F9 gr_sh (a + 1) k = if (gr_sh.getD (a + 1) (true, 0, 0)).2.1 = 2 then .inr (.inl 0) else .inl 0 := rfl
  unfold gd_K9
  rw [e, e2]
  rcases gd_c1 a ha with ⟨h1, h2, h3⟩ | ⟨h1, h2⟩
  · rw [h2, if_neg (fun q => h3 (by omega)), if_pos h1]
  · rw [h2, if_neg h1]
    by_cases h3 : a = 9 ∧ k < 96
    · rw [if_pos ⟨by omega, h3.2⟩, if_pos h3]
    · rw [if_neg (fun q => h3 ⟨by omega, q.2⟩), if_neg h3]
theorem gd_fin {cy : Nat → ClassId} {sa : Nat → Nat} {L : List Nat} (hL : L.length = gr_sh.length) {x : Nat} (hx : x ∈ L) : gz_f cy sa L gr_sh (gd_K9 96) x = gz_f cy sa L gr_sh (gr_h gq_I0 gd_J0) x := by
  have hi : L.idxOf x < 139 := by
    have := List.idxOf_lt_length_of_mem hx
    have e : gr_sh.length = 139 := rfl
    omega
  unfold gz_f
  generalize L.idxOf x = i at hi
  cases i with
  | zero =>
    show (Sum.inr (13, (List.range 229).map (fun k => gz_r sa L (gd_K9 96 0 k))) : va_E) = Sum.inr (13, (List.range 229).map (fun k => gz_r sa L (gr_h gq_I0 gd_J0 0 k)))
    refine congrArg (fun q => (Sum.inr (13, q) : va_E)) (List.map_congr_left (fun k hk => ?_))
    rw [← gd_c0 k (List.mem_range.mp hk)]
    unfold gd_K9
    rw [if_neg (by omega)]
    rfl
  | succ a =>
    have e : gd_K9 96 (a + 1) = gr_h gq_I0 gd_J0 (a + 1) := funext fun k => gd_c2 (by omega)
    rw [e]
def gd_T : gz_T := (fun ix => if ix = 47 then some (13, 16, 9) else none, fun _ => none)
theorem gd_Tok : gz_okm false gd_ws RX13 gd_T := by
  refine ⟨fun ix ci k t h => ?_, fun ix z h => (by cases h), fun ix z h => (by cases h)⟩
  by_cases h1 : ix = 47
  · subst h1
    have h2 : (some (13, 16, 9) : Option (Nat × Nat × Nat)) = some (ci, k, t) := h
    cases h2
    refine ⟨⟨RX13, TX13, 229, rfl, by decide, gd_wu, ?_⟩, fun h => absurd h (by first | exact gz_ne rfl | decide)⟩
    exact gd_wk (x := gd_m10) gd_m10_in
  · have h2 : (none : Option (Nat × Nat × Nat)) = some (ci, k, t) := by
      rw [← h]
      show _ = (if ix = 47 then _ else _)
      rw [if_neg h1]
    cases h2
theorem gd_lp : gq_chk cX13_init [(0, .aload_n 0), (1, .invokespecial 9), (1433, .iconst 0), (1434, .istore_n 1), (1435, .iload_n 1), (1436, .bipush 96), (1438, .if_icmp .ge 16), (1441, .aload_n 0), (1442, .getfield 47), (1445, .iload_n 1), (1446, .iconst (-1)), (1447, .iastore), (1448, .iinc 1 1), (1451, .goto (-16)), (1454, .return_)] = true := by decide +kernel
set_option maxHeartbeats 8000000 in
set_option maxRecDepth 100000 in
/-- new TongueHouseModel() -/
theorem gd_X13 (l : Launch) (D : va_G) (cy : Nat → ClassId) (sa qa va : Nat → Nat) (h0 sz : Nat) (f : Nat → va_E) (he : f h0 = .inr (13, gd_blank)) : Met l yX13_init (Cond.code yX13_init cX13_init 2 none :: gd_ws) ({ frames := 6, cells := 138, slots := 977948, locals := 140 }) (gd_Pc D cy qa va [.ref h0] sz [h0] f) (va_Qv (fun u : List Nat × (Nat → va_E) => u.1.length = gr_sh.length ∧ gz_al sa u.1 0 = h0 ∧ ∀ a ∈ u.1, u.2 a = gz_f cy sa u.1 gr_sh (gr_h gq_I0 gd_J0) a) (pw_B D (pw_A [h0] f sz)) (pw_A [h0] f sz)) 138 977948 (pw_A [h0] f sz) := by
  refine Met.ofW (cc := cX13_init) (maxL := 2) (ret := none) (by decide) rfl ?_
  intro p e s m args below meth c s₁ B hml hv
  obtain ⟨rfl, hsz, hG, ⟨hZ, hCl⟩, hP, hD0⟩ := hv
  have hx := B.exec
  have hb := B.bytes
  have hr := B.returns
  have hts := atoms_spec (ws := Cond.code yX13_init cX13_init 2 none :: gd_ws) B.pre
  have hpp := fun (w : Cond) (h : w ∈ gd_ws) => hts w (List.mem_cons_of_mem _ h)
  have hown : s.vm.findClass RX13 = some m.cls := findClass_of_methodNamed B.named
  have hlocks := B.notSynchronized
  have hin : meth.name = "<init>" := (name_of_methodNamed B.named B.method).1
  have hw0 := pw_start (cy := cy) hsz hP hD0
  have hw : pw_W D (pw_A [h0] f sz) s.heap [h0] (gz_f cy sa [h0] gd_sh0 (gd_H gd_F0 gd_sh0)) s.heap [] := gp_re hw0 (fun a ha => by
    rw [List.mem_singleton.mp ha, he]
    unfold gz_f
    rw [List.idxOf_cons_self]
    show _ = (Sum.inr (13, (List.range 229).map (fun k => gz_r sa [h0] (gd_H gd_F0 gd_sh0 0 k))) : va_E)
    rw [gd_blank_eq])
  have hl := lv_entry ([.ref h0]) (n := 2) (Nat.le_of_ble_eq_true rfl)
  rw [lg_entry_eq]
  generalize (lg_sl ([.ref h0]) ++ List.replicate (2 - (lg_sl ([.ref h0])).length) Slot.unset).toArray = ls at hl ⊢
  have hl : lv_has ls 2 [(0, .ref h0)] := hl
  have dd := fun pc i h => gq_ok gd_lp pc i h
  refine lv_aload_n hx hb (gx_d (dd 0 (.aload_n 0) rfl) rfl rfl) rfl (lv_at hl 0 rfl) ?_
  refine W.objInit hx hb hown (hpp _ (gd_wl (List.mem_of_getElem? (i := 4) rfl))) (hpp _ (gd_wl (List.mem_of_getElem? (i := 5) rfl))) (hpp _ (gd_wl (List.mem_of_getElem? (i := 6) rfl))) rfl (by rw [hml]; exact hl.1) rfl (gx_d (dd 1 (.invokespecial 9) rfl) rfl rfl) (Nat.le_of_ble_eq_true rfl) (Nat.le_of_ble_eq_true rfl) ?_
  refine W.eq (g2 := F0 m 4 ls []) rfl ?_
  refine gd_run (sa := sa) hx hb hml hown hts hG hin hZ hCl (Nat.le_of_ble_eq_true rfl) (Nat.le_of_ble_eq_true rfl) gd_it 4 0 0 gd_F0 gd_sh0 [h0] ls s.heap [] (fun _ h => h) gd_itc gd_ito gd_J00 (by rw [gd_e6]; decide) (by rw [gd_e2]; exact Nat.le_of_ble_eq_true rfl) (by rw [gd_e3]; exact Nat.le_of_ble_eq_true rfl) rfl hl hw (fun L ls H locs hp hL hJ hl hw => ?_)
  have hal : gz_al sa L 0 = h0 := by
    rw [gz_al_ext hp (Or.inl (Nat.zero_lt_succ 0))]
    rfl
  rw [gd_e4] at hL hw
  rw [gd_e1, gd_e2, gd_e3, Nat.zero_add, Nat.zero_add]
  have hw : pw_W D (pw_A [h0] f sz) s.heap L (gz_f cy sa L gr_sh (gd_K9 0)) H locs := by
    rw [gd_K90]
    exact hw
  refine lv_iconst (v := Int32.ofInt ((0 : Nat) : Int)) hx hb (gx_d (dd 1433 (.iconst 0) rfl) rfl rfl) rfl ?_
  refine lv_istore_n (lv' := [(1, .int (Int32.ofInt ((0 : Nat) : Int))), (0, .ref (gz_al sa L 0))]) hx hb (gx_d (dd 1434 (.istore_n 1) rfl) rfl rfl) rfl hl (by decide) rfl (fun ls hl => ?_)
  have loop : ∀ (fu j : Nat) (ls : Array Slot) (H : Heap) (locs : List Loc), 96 - j < fu → j ≤ 96 → lv_has ls 2 [(1, .int (Int32.ofInt (j : Int))), (0, .ref (gz_al sa L 0))] → pw_W D (pw_A [h0] f sz) s.heap L (gz_f cy sa L gr_sh (gd_K9 j)) H locs → W p l e (headSpec (Cond.code yX13_init cX13_init 2 none :: gd_ws) ({ frames := 6, cells := 138, slots := 977948, locals := 140 })).room s m [Value.ref h0].toArray below meth c H locs 138 977948 (MQ below (va_Qv (fun u : List Nat × (Nat → va_E) => u.1.length = gr_sh.length ∧ gz_al sa u.1 0 = h0 ∧ ∀ a ∈ u.1, u.2 a = gz_f cy sa u.1 gr_sh (gr_h gq_I0 gd_J0) a) (pw_B D (pw_A [h0] f sz)) (pw_A [h0] f sz)) [Value.ref h0].toArray s 138 977948 (pw_A [h0] f sz)) (F0 m 1435 ls []) := by
    intro fu
    induction fu with
    | zero => intro j ls H locs h _ _ _; omega
    | succ fu ih =>
      intro j ls H locs hfu hj hl hw
      refine lv_iload_n hx hb (gx_d (dd 1435 (.iload_n 1) rfl) rfl rfl) rfl (lv_at hl 0 rfl) ?_
      refine lv_bipush (v := Int32.ofInt ((96 : Nat) : Int)) hx hb (gx_d (dd 1436 (.bipush 96) rfl) rfl rfl) (by decide) ?_
      have hle := gz_le (a := ((96 : Nat) : Int)) (b := (j : Int)) ⟨by omega, by omega⟩ ⟨by omega, by omega⟩
      refine lv_icmp_ge (tgt := 1454) hx hb (gx_d (dd 1438 (.if_icmp .ge 16) rfl) rfl rfl) (by decide) (fun c1 => ?_) (fun c1 => ?_)
      · have hj9 : j = 96 := by
          have := hle.mp c1
          omega
        subst hj9
        exact pw_vret hx hb hr hlocks hsz hw ⟨hL, hal, fun a ha => gd_fin hL ha⟩ (gx_d (dd 1454 .return_ rfl) rfl rfl)
      · have hj96 : j < 96 := by
          rcases Nat.lt_or_ge j 96 with h | h
          · exact h
          · exact absurd (hle.mpr (by omega)) c1
        refine lv_aload_n hx hb (gx_d (dd 1441 (.aload_n 0) rfl) rfl rfl) rfl (lv_at hl 1 rfl) ?_
        have e0 : gd_K9 j 0 16 = .inr (.inr (some 10)) := by
          unfold gd_K9
          rw [if_neg (by omega)]
          exact gd_e5
        have s1 : gz_step gd_T gr_sh 2 true 1442 [(1, .inl (j : Int)), (0, .inr (.inr (some 0)))] [.inr (.inr (some 0))] (gd_K9 j) (.getfield 47) = some (1445, [(1, .inl (j : Int)), (0, .inr (.inr (some 0)))], [gd_K9 j 0 16], gd_K9 j, True) := rfl
        refine gz_step_ok (sa := sa) hx hb hpp hown hG gd_Tok (fun q => by cases q) (dd 1442 (.getfield 47) rfl) hL hl hw s1 trivial (fun ls H locs hl hw => ?_)
        rw [e0]
        refine lv_iload_n hx hb (gx_d (dd 1445 (.iload_n 1) rfl) rfl rfl) rfl (lv_at hl 0 rfl) ?_
        refine lv_iconst (v := Int32.ofInt (-1)) hx hb (gx_d (dd 1446 (.iconst (-1)) rfl) rfl rfl) rfl ?_
        have s2 : gz_step gd_T gr_sh 2 true 1447 [(1, .inl (j : Int)), (0, .inr (.inr (some 0)))] [.inl (-1), .inl (j : Int), .inr (.inr (some 10))] (gd_K9 j) .iastore = some (1448, [(1, .inl (j : Int)), (0, .inr (.inr (some 0)))], [], gz_up (gd_K9 j) 10 (j : Int).toNat (.inl (-1)), 0 ≤ (j : Int) ∧ (j : Int) < ((96 : Nat) : Int)) := rfl
        refine gz_step_ok (sa := sa) hx hb hpp hown hG gd_Tok (fun q => by cases q) (dd 1447 .iastore rfl) hL hl hw s2 ⟨by omega, by omega⟩ (fun ls H locs hl hw => ?_)
        rw [Int.toNat_natCast, gd_K9s] at hw
        refine lv_iinc (v := Int32.ofInt ((j + 1 : Nat) : Int)) (lv' := [(1, .int (Int32.ofInt ((j + 1 : Nat) : Int))), (0, .ref (gz_al sa L 0))]) hx hb (gx_d (dd 1448 (.iinc 1 1) rfl) rfl rfl) hl (k := 0) rfl (Int32.ofInt_add (j : Int) 1).symm (by decide) rfl (fun ls hl => ?_)
        refine lv_goto (tgt := 1435) hx hb (gx_d (dd 1451 (.goto (-16)) rfl) rfl rfl) (by decide) ?_
        exact ih (j + 1) ls H locs (by omega) (by omega) hl hw
  exact loop 97 0 ls H locs (by omega) (by omega) hl hw
