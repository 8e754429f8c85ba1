/-! CALLS OUT OF THE LAW'S FRAMES: a method of the first pool, a wrapper. -/
def gl_K (l : Launch) (D : va_G) (cy : Nat → ClassId) (sa : Nat → Nat) (sv : Nat) (ws0 : List Cond) (tb : String → gz_T) : Prop := (∀ w ∈ ws0, goodWord w = true) ∧ (∀ y cc n ret, Cond.code y cc n ret ∈ ws0 → plainName y.cls = true → gz_ok ws0 y.cls (tb y.cls)) ∧ (∀ (d : Nat) (sh : gz_Sh) (h : gz_H) (c : Int), 8 ≤ d → gz_R c → gz_Met l D cy sa sv ws0 (d + 1) gz_Mx [gz_sg, .inl c] sh h (some (.inl (gz_ixf c))) sh h 0 0) ∧ l.stackTraces = false ∧ gt_Wx ws0
/-- the words of a call of a wrapper -/
def gl_lW (ws0 : List Cond) (ix : Nat) (y : MethodName) (cw : Cond) (n : Nat) : Prop := cw ∈ ws0 ∧ Cond.methodLink RL ix y ∈ ws0 ∧ Cond.static y ∈ ws0 ∧ Cond.initialized y.cls ∈ ws0 ∧ (y.cls ≠ "java/lang/invoke/MethodHandle" ∧ y.cls ≠ "java/lang/invoke/VarHandle" ∧ (parseMethodDescriptor y.desc).map (fun d => d.parameters.length) = some n)
theorem gl_gS {ws0 : List Cond} (hg : ∀ w ∈ ws0, goodWord w = true) {ix n : Nat} {y : MethodName} {cw : Cond} (h : gl_lW ws0 ix y cw n) : GoodIn ws0 (va_wsS RL ix y (cw :: ws0)) := fun w hw => by
  obtain ⟨h0, h1, h2, h3, -⟩ := h
  have h9 : w ∈ ws0 := by
    rcases List.mem_append.mp hw with hw | hw
    · rcases List.mem_cons.mp hw with rfl | hw
      · exact h1
      rcases List.mem_cons.mp hw with rfl | hw
      · exact h2
      rcases List.mem_cons.mp hw with rfl | hw
      · exact h3
      exact absurd hw List.not_mem_nil
    · rcases List.mem_cons.mp hw with rfl | hw
      · exact h0
      · exact hw
  exact ⟨h9, good_of_word (hg w h9)⟩
section LD
variable {p : Program} {l : Launch} {e : Env} {R : Room} {s : State} {m : MethodId} {args : Array Value} {below : List Frame} {meth : Method} {c : Code} {H : Heap} {locs : List Loc} {cells slots : Nat} {Q : State → Prop}
variable {cc : ByteArray} {pc a1 s1 N d ix : Nat} {ls : Array Slot} {rest : List Value} {D : va_G} {cy : Nat → ClassId} {sa : Nat → Nat} {sv : Nat} {A : Nat → Prop} {L : List Nat} {sh shₚ : gz_Sh} {h hₚ : gz_H} {w1 wr : va_W} {ws0 : List Cond} {tb : String → gz_T} {own : String}
/-- a method of the first pool that answers -/
theorem gl_callV {M : gx_M} {As : List gz_V} {ci n9 n1 : Nat} {T9 : u_T} {res : Option gz_V} (K : gl_K l D cy sa sv ws0 tb) (hx : p.tables.exec = Jvm.exec) (hb : c.code = cc) (hml : c.maxLocals = N) (hpp : ∀ w ∈ ws0, w.before args s = true) (hown : s.vm.findClass own = some m.cls) (hG : pw_G D cy s) (hX : gz_X sa sv A s s.heap) (hV : gx_lV ws0 own ix M As.length) (hc : vwCl[ci]? = some (M.1.cls, T9, n9)) (hsh : sh[0]? = some (false, ci, n1)) (E : gz_Ev ws0 tb d M (.inr (.inr (some 0)) :: As) sh h res shₚ hₚ a1 s1) (hL : L.length = sh.length) (hls : ls.size = N) (hR : d + 1 ≤ R.frames ∧ 64 * (d + 1) ≤ R.locals) (hf : cells + a1 ≤ R.cells ∧ slots + s1 ≤ R.slots) (h8 : (rest.map fun v => v.category).sum ≤ 8) (hw : gp_W D A s.heap (va_pl L (gz_f cy sa L sh h) ++ wr) H locs) (hdg : decode cc pc = .ok (.invokevirtual ix, 3))
    (kk : ∀ (Lₚ : List Nat) (H1 : Heap) (locs1 : List Loc), L <+: Lₚ → Lₚ.length = shₚ.length → gp_W D A s.heap (va_pl Lₚ (gz_f cy sa Lₚ shₚ hₚ) ++ wr) H1 locs1 → W p l e R s m args below meth c H1 locs1 (cells + a1) (slots + s1) Q (F0 m (pc + 3) ls ((res.map (gz_r sa Lₚ)).toList ++ rest))) : W p l e R s m args below meth c H locs cells slots Q (F0 m pc ls ((As.map (gz_r sa L)).reverse ++ Value.ref (gz_al sa L 0) :: rest)) := by
  have hrm : (gz_rm d a1 s1).frames + 1 ≤ R.frames ∧ 8 + (M.2.2.1 + 11) + (gz_rm d a1 s1).locals ≤ R.locals := ⟨hR.1, by have := hV.2.2.2.2.2.2; have := hR.2; show 8 + (M.2.2.1 + 11) + 64 * d ≤ R.locals; omega⟩
  obtain ⟨hbL, hfb⟩ := gz_at (cy := cy) (sa := sa) (h := h) (pw_nd hw.pw) hL hsh (by decide)
  obtain ⟨k0, hk0⟩ := va_pl_get (X := []) (f := gz_f cy sa L sh h) hbL
  rw [hfb] at hk0
  exact gp_behind hw (va_runV (C := M.1.cls) (As := As.map (gz_r sa L)) (rest := rest) (Ts := ws0) (own := own) ⟨hx, hb, hml, hown, hpp⟩ ((gz_met K.1 K.2.1 K.2.2.1 d M _ sh h res shₚ hₚ a1 s1 hV.1 E).resolve_left (fun q => gz_lb_v q.1 hc) H.size L hL) (cwV As.length hpp (gx_gV K.1 hV) rfl rfl rfl ⟨rfl, hV.2.2.2.2.2.1⟩ hrm) ⟨gz_blind, va_recv hG.1 hw.pw.1 hc hk0, gz_pre hG hX hw.pw⟩ rfl (by rw [List.length_map]) hls rfl (lv_room h8) hdg hf) kk
/-- a method of the first pool that throws -/
theorem gl_xcallV {M : gx_M} {As : List gz_V} {ci n9 n1 : Nat} {T9 : u_T} {E : String} (K : gl_K l D cy sa sv ws0 tb) (hx : p.tables.exec = Jvm.exec) (hb : c.code = cc) (hml : c.maxLocals = N) (hpp : ∀ w ∈ ws0, w.before args s = true) (hown : s.vm.findClass own = some m.cls) (hG : pw_G D cy s) (hX : gz_X sa sv A s s.heap) (hV : gx_lV ws0 own ix M As.length) (hc : vwCl[ci]? = some (M.1.cls, T9, n9)) (hsh : sh[0]? = some (false, ci, n1)) (T : gt_Th ws0 tb d M (.inr (.inr (some 0)) :: As) sh h E shₚ hₚ a1 s1) (hL : L.length = sh.length) (hls : ls.size = N) (hR : d + 1 ≤ R.frames ∧ 64 * (d + 1) ≤ R.locals) (hf : cells + a1 ≤ R.cells ∧ slots + s1 ≤ R.slots) (h8 : (rest.map fun v => v.category).sum ≤ 8) (hw : gp_W D A s.heap (va_pl L (gz_f cy sa L sh h) ++ wr) H locs) (hdg : decode cc pc = .ok (.invokevirtual ix, 3))
    (kx : ∀ (Lₚ : List Nat) (ce : Cell) (q9 : Nat) (H1 : Heap) (locs1 : List Loc), L <+: Lₚ → Lₚ.length = shₚ.length → gp_W D A s.heap (va_pl Lₚ (gz_f cy sa Lₚ shₚ hₚ) ++ wr) H1 locs1 → H1[q9]? = some ce → ce.vm = .none → s.vm.findClass E = some ce.cls → vx_W p l e R s m args below meth c H1 locs1 (cells + a1) (slots + s1) Q (F0 m pc ls rest) q9) : W p l e R s m args below meth c H locs cells slots Q (F0 m pc ls ((As.map (gz_r sa L)).reverse ++ Value.ref (gz_al sa L 0) :: rest)) := by
  have hrm : (gz_rm d a1 s1).frames + 1 ≤ R.frames ∧ 8 + (M.2.2.1 + 11) + (gz_rm d a1 s1).locals ≤ R.locals := ⟨hR.1, by have := hV.2.2.2.2.2.2; have := hR.2; show 8 + (M.2.2.1 + 11) + 64 * d ≤ R.locals; omega⟩
  obtain ⟨hbL, hfb⟩ := gz_at (cy := cy) (sa := sa) (h := h) (pw_nd hw.pw) hL hsh (by decide)
  obtain ⟨k0, hk0⟩ := va_pl_get (X := []) (f := gz_f cy sa L sh h) hbL
  rw [hfb] at hk0
  exact gp_xbehind hw (vx_runV (C := M.1.cls) (As := As.map (gz_r sa L)) (rest := rest) (Ts := ws0) (own := own) ⟨hx, hb, hml, hown, hpp⟩ (gt_met K.1 K.2.1 K.2.2.1 K.2.2.2.1 K.2.2.2.2 d M _ sh h E shₚ hₚ a1 s1 hV.1 T H.size L hL) (cwV As.length hpp (gx_gV K.1 hV) rfl rfl rfl ⟨rfl, hV.2.2.2.2.2.1⟩ hrm) ⟨gz_blind, va_recv hG.1 hw.pw.1 hc hk0, gz_pre hG hX hw.pw⟩ rfl (by rw [List.length_map]) hls rfl (lv_room h8) hdg hf) kx
/-- a wrapper -/
theorem gl_callW {y : MethodName} {bytes : ByteArray} {maxL : Nat} {ret : Option FieldType} {hh : List (Nat × Nat × Nat × Nat)} {av : List Value} {k : Int32} {P : (Nat → Int64) → Prop} {ou : Nat} (hg : ∀ w ∈ ws0, goodWord w = true) (hx : p.tables.exec = Jvm.exec) (hb : c.code = cc) (hml : c.maxLocals = N) (hpp : ∀ w ∈ ws0, w.before args s = true) (hown : s.vm.findClass RL = some m.cls) (hG : pw_G D cy s) (hX : gz_X sa sv A s s.heap) (hV : gl_lW ws0 ix y (Cond.codeWith y bytes maxL ret hh) av.length)
    (hM : vx_Met l y (Cond.codeWith y bytes maxL ret hh :: ws0) (gz_rm d a1 s1) (gl_Pc D cy sa sv av H.size w1) (gl_Q D cy sa (va_A w1 H.size) ou L k shₚ hₚ P) gl_No a1 s1 (va_A w1 H.size))
    (hls : ls.size = N) (hR : d + 1 ≤ R.frames ∧ 8 + (maxL + 11) + 64 * d ≤ R.locals) (hf : cells + a1 ≤ R.cells ∧ slots + s1 ≤ R.slots) (h8 : (rest.map fun v => v.category).sum ≤ 8) (hw : gp_W D A s.heap (w1 ++ wr) H locs) (hdg : decode cc pc = .ok (.invokestatic ix, 3))
    (kk : ∀ (Lₚ : List Nat) (gₚ : Nat → Int64) (H1 : Heap) (locs1 : List Loc), L <+: Lₚ → Lₚ.length = shₚ.length → P gₚ → gp_W D A s.heap ((gp_ou cy ou gₚ :: va_pl Lₚ (gz_f cy sa Lₚ shₚ hₚ)) ++ wr) H1 locs1 → W p l e R s m args below meth c H1 locs1 (cells + a1) (slots + s1) Q (F0 m (pc + 3) ls (.int k :: rest))) : W p l e R s m args below meth c H locs cells slots Q (F0 m pc ls (av.reverse ++ rest)) :=
  gl_behind hw (vx_runSX (As := av) (rest := rest) (Ts := ws0) (own := RL) ⟨hx, hb, hml, hown, hpp⟩ hM (vx_cwSW av.length hpp (gl_gS hg hV) rfl rfl rfl hV.2.2.2.2 hR) ⟨gl_blind, gl_pre hG hX hw⟩ rfl rfl hls rfl (lv_room h8) hdg hf) kk
end LD
/-- what kind of answer a method of the class gives -/
theorem gl_int {ws0 : List Cond} {tb : String → gz_T} {d : Nat} {M : gx_M} {av : List gz_V} {sh shₚ : gz_Sh} {h hₚ : gz_H} {r : gz_V} {a s : Nat} (E : gz_Ev ws0 tb d M av sh h (some r) shₚ hₚ a s) (hc : M.1.cls ≠ RJ9 ∧ M.1.cls ≠ gz_Mx.1.cls) (hr : M.2.2.2 = some .int) : ∃ z : Int, r = .inl z := by
  cases d with
  | zero => exact E.elim
  | succ d =>
    rcases E with (⟨rfl, _⟩ | ⟨_, _, _, n, u, _, hf, _⟩) | ⟨h1, _⟩ | ⟨_, _, n, u, _, hf, _⟩
    · exact absurd rfl hc.2
    · rcases hf with ⟨_, h2, _⟩ | ⟨x, ty, _, _, _, _, h5⟩ | ⟨x, _, h3, _⟩ | ⟨x, rt, _, h3, h4, _⟩
      · rw [hr] at h2
        cases h2
      · exact ⟨x, Option.some.inj h5⟩
      · rw [hr] at h3
        cases h3
      · rw [hr] at h3
        cases h3
        rcases h4 with ⟨n, h4⟩ | ⟨t, h4⟩ <;> cases h4
    · exact absurd (gz_lb_c h1) hc.1
    · rcases hf with ⟨_, h2, _⟩ | ⟨x, ty, _, _, _, _, h5⟩ | ⟨x, _, h3, _⟩ | ⟨x, rt, _, h3, h4, _⟩
      · rw [hr] at h2
        cases h2
      · exact ⟨x, Option.some.inj h5⟩
      · rw [hr] at h3
        cases h3
      · rw [hr] at h3
        cases h3
        rcases h4 with ⟨n, h4⟩ | ⟨t, h4⟩ <;> cases h4
theorem gl_bool {ws0 : List Cond} {tb : String → gz_T} {d : Nat} {M : gx_M} {av : List gz_V} {sh shₚ : gz_Sh} {h hₚ : gz_H} {r : gz_V} {a s : Nat} (E : gz_Ev ws0 tb d M av sh h (some r) shₚ hₚ a s) (hc : M.1.cls ≠ RJ9 ∧ M.1.cls ≠ gz_Mx.1.cls) (hr : M.2.2.2 = some .boolean) : r = .inl 0 ∨ r = .inl 1 := by
  cases d with
  | zero => exact E.elim
  | succ d =>
    rcases E with (⟨rfl, _⟩ | ⟨_, _, _, n, u, _, hf, _⟩) | ⟨h1, _⟩ | ⟨_, _, n, u, _, hf, _⟩
    · exact absurd rfl hc.2
    · rcases hf with ⟨_, h2, _⟩ | ⟨x, ty, _, h2, h4, _, h5⟩ | ⟨x, _, h3, _⟩ | ⟨x, rt, _, h3, h4, _⟩
      · rw [hr] at h2
        cases h2
      · rw [hr] at h2
        cases h2
        rcases h4 with h4 | ⟨_, rfl | rfl⟩
        · cases h4
        · exact Or.inl (Option.some.inj h5)
        · exact Or.inr (Option.some.inj h5)
      · rw [hr] at h3
        cases h3
      · rw [hr] at h3
        cases h3
        rcases h4 with ⟨n, h4⟩ | ⟨t, h4⟩ <;> cases h4
    · exact absurd (gz_lb_c h1) hc.1
    · rcases hf with ⟨_, h2, _⟩ | ⟨x, ty, _, h2, h4, _, h5⟩ | ⟨x, _, h3, _⟩ | ⟨x, rt, _, h3, h4, _⟩
      · rw [hr] at h2
        cases h2
      · rw [hr] at h2
        cases h2
        rcases h4 with h4 | ⟨_, rfl | rfl⟩
        · cases h4
        · exact Or.inl (Option.some.inj h5)
        · exact Or.inr (Option.some.inj h5)
      · rw [hr] at h3
        cases h3
      · rw [hr] at h3
        cases h3
        rcases h4 with ⟨n, h4⟩ | ⟨t, h4⟩ <;> cases h4
theorem gl_long {ws0 : List Cond} {tb : String → gz_T} {d : Nat} {M : gx_M} {av : List gz_V} {sh shₚ : gz_Sh} {h hₚ : gz_H} {r : gz_V} {a s : Nat} (E : gz_Ev ws0 tb d M av sh h (some r) shₚ hₚ a s) (hc : M.1.cls ≠ RJ9 ∧ M.1.cls ≠ gz_Mx.1.cls) (hr : M.2.2.2 = some .long) : ∃ z : Int64, r = .inr (.inl z) := by
  cases d with
  | zero => exact E.elim
  | succ d =>
    rcases E with (⟨rfl, _⟩ | ⟨_, _, _, n, u, _, hf, _⟩) | ⟨h1, _⟩ | ⟨_, _, n, u, _, hf, _⟩
    · exact absurd rfl hc.2
    · rcases hf with ⟨_, h2, _⟩ | ⟨x, ty, _, h2, h4, _, h5⟩ | ⟨x, _, h3, _, h5⟩ | ⟨x, rt, _, h3, h4, _⟩
      · rw [hr] at h2
        cases h2
      · rw [hr] at h2
        cases h2
        rcases h4 with h4 | ⟨h4, _⟩ <;> cases h4
      · exact ⟨x, Option.some.inj h5⟩
      · rw [hr] at h3
        cases h3
        rcases h4 with ⟨n, h4⟩ | ⟨t, h4⟩ <;> cases h4
    · exact absurd (gz_lb_c h1) hc.1
    · rcases hf with ⟨_, h2, _⟩ | ⟨x, ty, _, h2, h4, _, h5⟩ | ⟨x, _, h3, _, h5⟩ | ⟨x, rt, _, h3, h4, _⟩
      · rw [hr] at h2
        cases h2
      · rw [hr] at h2
        cases h2
        rcases h4 with h4 | ⟨h4, _⟩ <;> cases h4
      · exact ⟨x, Option.some.inj h5⟩
      · rw [hr] at h3
        cases h3
        rcases h4 with ⟨n, h4⟩ | ⟨t, h4⟩ <;> cases h4
