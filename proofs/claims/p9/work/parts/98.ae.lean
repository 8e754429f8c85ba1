theorem gdpd_X13_word : yX13_word.cls ≠ "java/lang/invoke/MethodHandle" ∧ yX13_word.cls ≠ "java/lang/invoke/VarHandle" ∧ (parseMethodDescriptor yX13_word.desc).map (fun d => d.parameters.length) = some 1 := by decide +kernel
section GD
variable {p : Program} {l : Launch} {e : Env} {R : Room} {s : State} {m : MethodId} {args : Array Value} {below : List Frame} {meth : Method} {c : Code} {Q : State → Prop}
variable {D : va_G} {cy : Nat → ClassId} {sa qa va : Nat → Nat} {A : Nat → Prop}
theorem gd_calll {pc mc ms cells slots : Nat} {st0 rest : List Value} {ls : Array Slot} {H : Heap} {locs : List Loc} {L : List Nat} {f : Nat → va_E} {a : Array Value} {S : Int64 → List Nat × (Nat → va_E) → Prop} (hw : pw_W D A s.heap L f H locs)
    (hr : va_Run p l e R s m args below meth c H locs cells slots mc ms (F0 m pc ls st0) rest (va_Ql S (pw_B D (pw_A L f H.size)) (pw_A L f H.size) a) (pw_A L f H.size))
    (kk : ∀ (r : Int64) (L1 : List Nat) (f1 : Nat → va_E) (H1 : Heap) (locs1 : List Loc), pw_W D A s.heap L1 f1 H1 locs1 → S r (L1, f1) → W p l e R s m args below meth c H1 locs1 (cells + mc) (slots + ms) Q (F0 m (pc + 3) ls (.long r :: rest))) : W p l e R s m args below meth c H locs cells slots Q (F0 m pc ls st0) := by
  refine va_calll hr hw.2.2.1 (fun q _ h => pq_sub hw q h) (pq_sub hw) (fun r u t H1 locs1 ht _ hp hB _ _ hS => ?_)
  obtain ⟨L1, f1⟩ := u
  obtain ⟨hP1, hD1⟩ := hB
  rw [ht] at hP1
  exact kk r L1 f1 H1 locs1 ⟨hP1, hD1.weaken (fun k q _ h => pq_sub hw q.1 h), hS, hw.2.2.2⟩ hp
theorem gd_push (hx : p.tables.exec = Jvm.exec) (hb : c.code = cX13_init) (hown : s.vm.findClass RX13 = some m.cls) {pk arg n pc cells slots : Nat} {rest : List Value} {ls : Array Slot} {H : Heap} {locs : List Loc} (hd : gx_dec cX13_init pc (gd_pi pk arg n)) (h0 : pk = 0 → n ≤ 127) (h1 : pk = 1 → n ≤ 32767) (hc : 3 ≤ pk → (Cond.constant RX13 arg (Int32.ofInt (n : Int))).before args s = true)
    (kk : W p l e R s m args below meth c H locs cells slots Q (F0 m (pc + gd_pd pk) ls (.int (Int32.ofInt (n : Int)) :: rest))) : W p l e R s m args below meth c H locs cells slots Q (F0 m pc ls rest) := by
  match pk, hd, h0, h1, hc, kk with
  | 0, hd, h0, _, _, kk => exact lv_bipush (v := Int32.ofInt (n : Int)) hx hb (gx_d hd rfl rfl) (gz_i8 ⟨by omega, by have := h0 rfl; omega⟩) kk
  | 1, hd, _, h1, _, kk => exact lv_sipush (v := Int32.ofInt (n : Int)) hx hb (gx_d hd rfl rfl) (gz_i16 ⟨by omega, by have := h1 rfl; omega⟩) kk
  | 2, hd, _, _, _, kk => exact lv_iconst (v := Int32.ofInt (n : Int)) hx hb (gx_d hd rfl rfl) rfl kk
  | 3, hd, _, _, hc, kk => exact lv_ldc hx hb hown (hc (by omega)) (gx_d hd rfl rfl) kk
  | pk + 4, hd, _, _, hc, kk => exact lv_ldcw hx hb hown (hc (by omega)) (gx_d hd rfl rfl) kk
theorem gd_putF {pc k ix cells slots : Nat} {ls : Array Slot} {H : Heap} {locs : List Loc} {L : List Nat} {F : List gz_V} {sh : gz_Sh} {v : gz_V} {c0 : Cond} {x : gd_It} (hx : p.tables.exec = Jvm.exec) (hb : c.code = cX13_init) (hown : s.vm.findClass RX13 = some m.cls) (hts : ∀ w ∈ (c0 :: gd_ws), w.before args s = true) (hG : pw_G D cy s) (hin : meth.name = "<init>") (hk : k < 229) (hfin : (TX13 k).2.2.2 = true) (hdecl : (TX13 k).1 = RX13) (hn : narrow (tyX13 k) (gz_r sa L v) = gz_r sa L v) (hfit : fits (tyX13 k) (gz_r sa L v) = true) (hlk : Cond.fieldLink RX13 ix (TX13 k).1 (TX13 k).2.1 (TX13 k).2.2.1 ∈ gd_ws) (hJ : gd_J F sh) (hL : L.length = sh.length) (hw : pw_W D A s.heap L (gz_f cy sa L sh (gd_H F sh)) H locs) (hd : gx_dec cX13_init pc (.putfield ix))
    (kk : ∀ (H1 : Heap) (locs1 : List Loc), pw_W D A s.heap L (gz_f cy sa L sh (gd_H (F.set k v) sh)) H1 locs1 → W p l e R s m args below meth c H1 locs1 cells slots Q (F0 m (pc + 3) ls [])) : W p l e R s m args below meth c H locs cells slots Q (F0 m pc ls [gz_r sa L v, .ref (gz_al sa L 0)]) := by
  have hpp : ∀ w ∈ gd_ws, w.before args s = true := fun w h => hts w (List.mem_cons_of_mem _ h)
  obtain ⟨ha, he⟩ := gz_at (cy := cy) (sa := sa) (h := gd_H F sh) (pw_nd hw) hL hJ.2.1 (by decide)
  refine pw_putF (C := RX13) (T := TX13) (N := 229) (ci := 13) (ref := (TX13 k).1) hx hb hpp gd_wu tyX13 tyX13_ok nmX13 hown hG hw ha he rfl k hk (hpp _ hlk) (fun _ h => h) hfin hin hdecl (tyX13_ok k hk) hn hfit (by rw [List.length_map, List.length_range]; exact hk) (gx_d hd rfl rfl) (fun H1 locs1 hw1 => kk H1 locs1 ?_)
  rw [gz_cell_put (cy := cy) sa L hk, ← gz_set (pw_nd hw) hL hJ.2.1 (by decide), gd_H_set (by rw [hJ.1]; exact hk)] at hw1
  exact hw1
theorem gd_putI {pc k ix cells slots : Nat} {ls : Array Slot} {H : Heap} {locs : List Loc} {L : List Nat} {F : List gz_V} {sh : gz_Sh} {v : gz_V} {c0 : Cond} (hx : p.tables.exec = Jvm.exec) (hb : c.code = cX13_init) (hown : s.vm.findClass RX13 = some m.cls) (hts : ∀ w ∈ (c0 :: gd_ws), w.before args s = true) (hG : pw_G D cy s) (hk : k < 229) (hfin : (TX13 k).2.2.2 = false) (hn : narrow (tyX13 k) (gz_r sa L v) = gz_r sa L v) (hfit : fits (tyX13 k) (gz_r sa L v) = true) (hlk : Cond.fieldLink RX13 ix (TX13 k).1 (TX13 k).2.1 (TX13 k).2.2.1 ∈ gd_ws) (hJ : gd_J F sh) (hL : L.length = sh.length) (hw : pw_W D A s.heap L (gz_f cy sa L sh (gd_H F sh)) H locs) (hd : gx_dec cX13_init pc (.putfield ix))
    (kk : ∀ (H1 : Heap) (locs1 : List Loc), pw_W D A s.heap L (gz_f cy sa L sh (gd_H (F.set k v) sh)) H1 locs1 → W p l e R s m args below meth c H1 locs1 cells slots Q (F0 m (pc + 3) ls [])) : W p l e R s m args below meth c H locs cells slots Q (F0 m pc ls [gz_r sa L v, .ref (gz_al sa L 0)]) := by
  have hpp : ∀ w ∈ gd_ws, w.before args s = true := fun w h => hts w (List.mem_cons_of_mem _ h)
  obtain ⟨ha, he⟩ := gz_at (cy := cy) (sa := sa) (h := gd_H F sh) (pw_nd hw) hL hJ.2.1 (by decide)
  refine pw_put (C := RX13) (T := TX13) (N := 229) (ci := 13) (ref := (TX13 k).1) hx hb hpp gd_wu tyX13 tyX13_ok nmX13 hown hG hw ha he rfl k hk (hpp _ hlk) (fun _ h => h) hfin (tyX13_ok k hk) hn hfit (by rw [List.length_map, List.length_range]; exact hk) (gx_d hd rfl rfl) (fun H1 locs1 hw1 => kk H1 locs1 ?_)
  rw [gz_cell_put (cy := cy) sa L hk, ← gz_set (pw_nd hw) hL hJ.2.1 (by decide), gd_H_set (by rw [hJ.1]; exact hk)] at hw1
  exact hw1
theorem gd_isA_n {ty : FieldType} (h : gd_isA ty = true) (q : Nat) : narrow ty (.ref q) = .ref q ∧ fits ty (.ref q) = true := by
  cases ty <;> first | exact ⟨rfl, rfl⟩ | cases h
theorem gd_gT {c0 : Cond} : GoodIn (c0 :: gd_ws) (va_wsS RX13 199 yX13_word (Cond.code yX13_word cX13_word 4 (some .long) :: gd_jw)) := fun w hw => by
  have hg0 : ∀ w ∈ gd_w0, goodWord w = true := List.all_eq_true.mp (by decide +kernel)
  rcases List.mem_append.mp hw with hw | hw
  · have h9 : w ∈ gd_w0 := by
      rcases List.mem_cons.mp hw with rfl | hw
      · exact List.mem_of_getElem? (i := 1) rfl
      rcases List.mem_cons.mp hw with rfl | hw
      · exact List.mem_of_getElem? (i := 2) rfl
      rcases List.mem_cons.mp hw with rfl | hw
      · exact List.mem_of_getElem? (i := 3) rfl
      exact absurd hw List.not_mem_nil
    exact ⟨List.mem_cons_of_mem _ (gd_wl h9), good_of_word (hg0 w h9)⟩
  · rcases List.mem_cons.mp hw with rfl | hw
    · exact ⟨List.mem_cons_of_mem _ (gd_wl (List.mem_of_getElem? (i := 0) rfl)), good_of_word (hg0 _ (List.mem_of_getElem? (i := 0) rfl))⟩
    · exact ⟨List.mem_cons_of_mem _ (gd_wj hw), good_of_word (gd_jgood w hw)⟩
theorem gd_arr (t : Nat) (ht : t ≤ 3) : gz_aty (gd_at t) = some t ∧ Cond.arrayClass (newarray.typeOf (gd_at t)) ∈ gd_ws := by
  match t, ht with
  | 0, _ => exact ⟨rfl, gd_wl (List.mem_of_getElem? (i := 7) rfl)⟩
  | 1, _ => exact ⟨rfl, gd_wl (List.mem_of_getElem? (i := 8) rfl)⟩
  | 2, _ => exact ⟨rfl, gd_wl (List.mem_of_getElem? (i := 9) rfl)⟩
  | 3, _ => exact ⟨rfl, gd_wl (List.mem_of_getElem? (i := 10) rfl)⟩
/-- one text's word -/
theorem gd_word {arg pk pc cells slots : Nat} {ls : Array Slot} {H : Heap} {locs : List Loc} {L : List Nat} {f : Nat → va_E} {rest : List Value} {c0 : Cond} (hx : p.tables.exec = Jvm.exec) (hb : c.code = cX13_init) (hml : c.maxLocals = 2) (hown : s.vm.findClass RX13 = some m.cls) (hts : ∀ w ∈ (c0 :: gd_ws), w.before args s = true) (hG : pw_G D cy s) (hZ : gd_X qa va A s s.heap) (hRf : 5 ≤ R.frames) (hRl : 109 ≤ R.locals) (hRc : cells ≤ R.cells) (hRs : slots ≤ R.slots) (hpk : pk = 3 ∨ pk = 4) (harg : arg ∈ gd_sk) (hls : ls.size = 2) (hrest : (rest.map fun v => v.category).sum ≤ 8) (hw : pw_W D A s.heap L f H locs) (hd : gx_dec cX13_init pc (gd_pi pk arg 0)) (hd2 : gx_dec cX13_init (pc + gd_pd pk) (.invokestatic 199))
    (kk : ∀ (H1 : Heap) (locs1 : List Loc), pw_W D A s.heap L f H1 locs1 → W p l e R s m args below meth c H1 locs1 cells slots Q (F0 m (pc + gd_pd pk + 3) ls (.long (gd_val arg) :: rest))) : W p l e R s m args below meth c H locs cells slots Q (F0 m pc ls rest) := by
  obtain ⟨x, hx9, rfl⟩ := List.mem_map.mp harg
  obtain ⟨hR, hY⟩ := hZ x hx9
  have hn : gd_ln x.1 < 2 ^ 31 := by
    have h9 : ∀ y ∈ gd_strs, gd_ln y.1 < 2 ^ 31 := by decide
    exact h9 x hx9
  have go : W p l e R s m args below meth c H locs cells slots Q (F0 m (pc + gd_pd pk) ls (.ref (qa x.1) :: rest)) := by
    refine gd_calll hw (va_runS (As := [.ref (qa x.1)]) (rest := rest) ⟨hx, hb, hml, hown, hts⟩ (gdc_X13_word l D cy (qa x.1) (va x.1) (gd_ln x.1) (gd_bt x.1) hn H.size L f) (va_cwS 1 hts gd_gT rfl rfl rfl gdpd_X13_word ⟨hRf, hRl⟩) (py_pre hG hY hw) rfl rfl hls rfl (by show 2 * 0 + _ ≤ 8; omega) (gx_d hd2 rfl rfl) ⟨hRc, hRs⟩) (fun r L1 f1 H1 locs1 hw1 hS => ?_)
    obtain ⟨hL, ⟨cs, hP, -⟩, hF⟩ := hS
    dsimp only at hL hF
    have hf : f1 = f := funext fun y => hF y List.not_mem_nil
    subst hL hf
    rw [hP.1]
    exact kk H1 locs1 hw1
  rcases hpk with rfl | rfl
  · exact va_ldcS hx hb hown hR (gx_d hd rfl rfl) go
  · exact py_ldcSW hx hb hown hR (gx_d hd rfl rfl) go
set_option maxHeartbeats 8000000 in
set_option maxRecDepth 20000 in
theorem gd_run (hx : p.tables.exec = Jvm.exec) (hb : c.code = cX13_init) (hml : c.maxLocals = 2) (hown : s.vm.findClass RX13 = some m.cls) {c0 : Cond} (hts : ∀ w ∈ (c0 :: gd_ws), w.before args s = true) (hG : pw_G D cy s) (hin : meth.name = "<init>") (hZ : gd_X qa va A s s.heap) (hCl : va_Nw (.castable "[B" "java/lang/Cloneable") s) (hRf : 5 ≤ R.frames) (hRl : 109 ≤ R.locals) : ∀ (items : List gd_It) (pc cells slots : Nat) (F : List gz_V) (sh : gz_Sh) (L : List Nat) (ls : Array Slot) (H : Heap) (locs : List Loc), (∀ x ∈ items, x ∈ gd_it) → gq_chk cX13_init (gd_co pc items) = true → (∀ x ∈ items, gd_ok1 x = true) → gd_J F sh → sh.length + items.length < 1000 → cells + gd_cl items ≤ R.cells → slots + gd_sl items ≤ R.slots → L.length = sh.length → lv_has ls 2 [(0, .ref (gz_al sa L 0))] → pw_W D A s.heap L (gz_f cy sa L sh (gd_H F sh)) H locs →
    (∀ (Lₚ : List Nat) (ls1 : Array Slot) (H1 : Heap) (locs1 : List Loc), L <+: Lₚ → Lₚ.length = (gd_st items (F, sh)).2.length → gd_J (gd_st items (F, sh)).1 (gd_st items (F, sh)).2 → lv_has ls1 2 [(0, .ref (gz_al sa Lₚ 0))] → pw_W D A s.heap Lₚ (gz_f cy sa Lₚ (gd_st items (F, sh)).2 (gd_H (gd_st items (F, sh)).1 (gd_st items (F, sh)).2)) H1 locs1 → W p l e R s m args below meth c H1 locs1 (cells + gd_cl items) (slots + gd_sl items) Q (F0 m (gd_end pc items) ls1 [])) → W p l e R s m args below meth c H locs cells slots Q (F0 m pc ls []) := by
  intro items
  induction items with
  | nil =>
    intro pc cells slots F sh L ls H locs _ _ _ hJ _ _ _ hL hl hw kk
    exact kk L ls H locs (List.prefix_refl L) hL hJ hl hw
  | cons x r ih =>
    rcases x with ⟨pk, arg, n, t, k, ix⟩ | ⟨k, ix⟩ | ⟨pk, arg, k, ix⟩
    · intro pc cells slots F sh L ls H locs hit hc hok hJ hlen hcl hsl hL hl hw kk
      have hpp : ∀ w ∈ gd_ws, w.before args s = true := fun w h => hts w (List.mem_cons_of_mem _ h)
      obtain ⟨d0, hc⟩ := gd_chk hc
      obtain ⟨d1, hc⟩ := gd_chk hc
      obtain ⟨d2, hc⟩ := gd_chk hc
      obtain ⟨d3, hc⟩ := gd_chk hc
      dsimp only at d0 d1 d2 d3
      have h1 := hok _ List.mem_cons_self
      have hm := hit _ List.mem_cons_self
      unfold gd_ok1 at h1
      simp only [Bool.and_eq_true, decide_eq_true_eq] at h1
      obtain ⟨⟨⟨⟨⟨⟨⟨k1, k2⟩, k3⟩, k4⟩, k5⟩, k6⟩, k7⟩, k8⟩ := h1
      have hcl9 : cells + 1 + gd_cl r ≤ R.cells := by have : gd_cl (.inl (pk, arg, n, t, k, ix) :: r) = 1 + gd_cl r := rfl; omega
      have hsl9 : slots + n + gd_sl r ≤ R.slots := by have : gd_sl (.inl (pk, arg, n, t, k, ix) :: r) = n + gd_sl r := rfl; omega
      have hlen9 : sh.length + 1 + r.length < 1000 := by rw [List.length_cons] at hlen; omega
      obtain ⟨a1, a2⟩ := gd_arr t k5
      refine lv_aload_n hx hb (gx_d d0 rfl rfl) rfl (lv_at hl 0 rfl) ?_
      refine gd_push hx hb hown d1 k7 k8 (fun h3 => hpp _ (gd_wc hm (by show _ ∈ (if 3 ≤ pk then _ else _); rw [if_pos h3]; exact List.mem_singleton.mpr rfl))) ?_
      have hp0 := hJ.pos
      refine gz_mk_ok (u := (pc + 1 + gd_pd pk, [(0, .inr (.inr (some 0)))], [.inl (n : Int), .inr (.inr (some 0))], sh, gd_H F sh)) (v := (pc + 1 + gd_pd pk + 2, [(0, .inr (.inr (some 0)))], [.inr (.inr (some sh.length)), .inr (.inr (some 0))], sh ++ [(true, t, n)], gd_H F (sh ++ [(true, t, n)]))) (a1 := 1) (s1 := n) (sa := sa) hCl hx hb hml hpp hown hG ⟨by omega, by omega⟩ (Or.inr (Or.inl ⟨gd_at t, t, n, [.inr (.inr (some 0))], d2, a1, a2, rfl, k6, ⟨by show sh.length < 1000000; omega, hJ.wf, rfl, fun i hi => gd_H_old hi, fun q hq => ?_, fun q hq => ?_, rfl⟩, gd_H_new hp0, rfl, rfl, rfl, rfl⟩)) ⟨by omega, by omega⟩ hL hl hw (fun L1 ls1 H1 locs1 hp1 hL1 hl1 hw1 => ?_)
      · rw [List.mem_singleton.mp hq]
        exact Or.inl hp0
      · rcases List.mem_cons.mp hq with rfl | hq
        · trivial
        · rw [List.mem_singleton.mp hq]
          exact Or.inl hp0
      dsimp only at hL1 hl1 hw1 ⊢
      have hJ1 : gd_J F (sh ++ [(true, t, n)]) := hJ.push (by omega)
      obtain ⟨n1, n2⟩ := gd_isA_n k4 (gz_al sa L1 sh.length)
      refine gd_putF (sa := sa) (F := F) (sh := sh ++ [(true, t, n)]) (v := .inr (.inr (some sh.length))) (x := .inl (pk, arg, n, t, k, ix)) hx hb hown hts hG hin k1 k2 k3 n1 n2 (gd_wk hm) hJ1 hL1 hw1 d3 (fun H2 locs2 hw2 => ?_)
      have hJ2 : gd_J (F.set k (.inr (.inr (some sh.length)))) (sh ++ [(true, t, n)]) := hJ1.set (Or.inl (by rw [List.length_append]; show _ < sh.length + 1; omega))
      refine ih (pc + 1 + gd_pd pk + 2 + 3) (cells + 1) (slots + n) _ _ L1 ls1 H2 locs2 (fun x hx => hit x (List.mem_cons_of_mem _ hx)) hc (fun x hx => hok x (List.mem_cons_of_mem _ hx)) hJ2 (by rw [List.length_append]; show sh.length + 1 + _ < _; omega) hcl9 hsl9 hL1 hl1 hw2 (fun L2 ls2 H3 locs3 hp3 hL3 hJ3 hl3 hw3 => ?_)
      have h9 := kk L2 ls2 H3 locs3 (hp1.trans hp3) hL3 hJ3 hl3 hw3
      rw [show gd_cl (.inl (pk, arg, n, t, k, ix) :: r) = 1 + gd_cl r from rfl, show gd_sl (.inl (pk, arg, n, t, k, ix) :: r) = n + gd_sl r from rfl, ← Nat.add_assoc, ← Nat.add_assoc] at h9
      exact h9
    · intro pc cells slots F sh L ls H locs hit hc hok hJ hlen hcl hsl hL hl hw kk
      obtain ⟨d0, hc⟩ := gd_chk hc
      obtain ⟨d1, hc⟩ := gd_chk hc
      obtain ⟨d2, hc⟩ := gd_chk hc
      dsimp only at d0 d1 d2
      have h1 := hok _ List.mem_cons_self
      have hm := hit _ List.mem_cons_self
      unfold gd_ok1 at h1
      simp only [Bool.and_eq_true, decide_eq_true_eq, Bool.not_eq_true'] at h1
      obtain ⟨⟨k1, k2⟩, k3⟩ := h1
      have hlen9 : sh.length + r.length < 1000 := by rw [List.length_cons] at hlen; omega
      refine lv_aload_n hx hb (gx_d d0 rfl rfl) rfl (lv_at hl 0 rfl) ?_
      refine lv_iconst (v := Int32.ofInt (-1)) hx hb (gx_d d1 rfl rfl) rfl ?_
      refine gd_putI (sa := sa) (F := F) (sh := sh) (v := .inl (-1)) hx hb hown hts hG k1 k2 (by rw [k3]; rfl) (by rw [k3]; rfl) (gd_wk hm) hJ hL hw d2 (fun H2 locs2 hw2 => ?_)
      exact ih (pc + 1 + 1 + 3) cells slots _ _ L ls H2 locs2 (fun x hx => hit x (List.mem_cons_of_mem _ hx)) hc (fun x hx => hok x (List.mem_cons_of_mem _ hx)) (hJ.set (v := .inl (-1)) trivial) hlen9 hcl hsl hL hl hw2 kk
    · intro pc cells slots F sh L ls H locs hit hc hok hJ hlen hcl hsl hL hl hw kk
      obtain ⟨d0, hc⟩ := gd_chk hc
      obtain ⟨d1, hc⟩ := gd_chk hc
      obtain ⟨d2, hc⟩ := gd_chk hc
      obtain ⟨d3, hc⟩ := gd_chk hc
      dsimp only at d0 d1 d2 d3
      have h1 := hok _ List.mem_cons_self
      have hm := hit _ List.mem_cons_self
      unfold gd_ok1 at h1
      simp only [Bool.and_eq_true, decide_eq_true_eq] at h1
      obtain ⟨⟨⟨⟨⟨k1, k2⟩, k3⟩, k4⟩, k5⟩, k6⟩ := h1
      have hlen9 : sh.length + r.length < 1000 := by rw [List.length_cons] at hlen; omega
      refine lv_aload_n hx hb (gx_d d0 rfl rfl) rfl (lv_at hl 0 rfl) ?_
      refine gd_word hx hb hml hown hts hG hZ hRf hRl (by omega) (by omega) k5 k6 hl.1 (Nat.le_of_ble_eq_true rfl) hw d1 d2 (fun H2 locs2 hw2 => ?_)
      refine gd_putF (sa := sa) (F := F) (sh := sh) (v := .inr (.inl (gd_val arg))) (x := .inr (.inr (pk, arg, k, ix))) hx hb hown hts hG hin k1 k2 k3 (by rw [k4]; rfl) (by rw [k4]; rfl) (gd_wk hm) hJ hL hw2 d3 (fun H3 locs3 hw3 => ?_)
      exact ih (pc + 1 + gd_pd pk + 3 + 3) cells slots _ _ L ls H3 locs3 (fun x hx => hit x (List.mem_cons_of_mem _ hx)) hc (fun x hx => hok x (List.mem_cons_of_mem _ hx)) (hJ.set (v := .inr (.inl (gd_val arg))) trivial) hlen9 hcl hsl hL hl hw3 kk
end GD
