/-! RUNS OVER NUMBERS AND PLACES: steps, calls, paths, a method's run; and the contract out of a run. -/
/-- String.indexOf of a char in the text of signs -/
def gz_Mx : gx_M := (yJ0_indexOf_0f7a4, cJ0_indexOf_0f7a4, 2, some .int)
def gz_sg : gz_V := .inr (.inr (some 1005000))
def gz_ixf (c : Int) : Int := match gz_sl.findIdx? (fun x => x == c) with
  | some k => (k : Int)
  | none => -1
def gz_lI (ws0 : List Cond) (own : String) (ix : Nat) (M : gx_M) (n : Nat) : Prop := gx_code M ∈ ws0 ∧ Cond.initialized M.1.cls ∈ ws0 ∧ Cond.instanceMethod M.1 ∈ ws0 ∧ M.1.name = "<init>" ∧ M.2.2.2 = none ∧ (M.1.cls ≠ "java/lang/invoke/MethodHandle" ∧ M.1.cls ≠ "java/lang/invoke/VarHandle" ∧ (parseMethodDescriptor M.1.desc).map (fun d => d.parameters.length) = some n) ∧ M.2.2.1 ≤ 45 ∧ (Cond.methodLink own ix M.1 ∈ ws0 ∨ own = RX6 ∧ ix = 361 ∧ M.1 = yX3_init)
/-- the int on top brought into the range of ints: the machine's value is the same -/
def gz_wr (u v : gz_S) : Prop := ∃ (z : Int) (r : List gz_V), u.2.2.1 = .inl z :: r ∧ v.2.2 = (.inl (Int32.ofInt z).toInt :: r, u.2.2.2)
/-- one instruction, or a call, or some locals forgotten -/
def gz_do (ws0 : List Cond) (own : String) (T : gz_T) (cc : ByteArray) (N : Nat) (K : gz_K) (u v : gz_S) (a s : Nat) : Prop :=
  (∃ (b : Bool) (i : Instr) (C : Prop), gx_dec cc u.1 i ∧ gz_step T u.2.2.2.1 N b u.1 u.2.1 u.2.2.1 u.2.2.2.2 i = some (v.1, v.2.1, v.2.2.1, v.2.2.2.2, C) ∧ C ∧ v.2.2.2.1 = u.2.2.2.1 ∧ a = 0 ∧ s = 0) ∨
  ((∀ q ∈ v.2.1, q ∈ u.2.1) ∧ v.1 = u.1 ∧ (v.2.2 = u.2.2 ∨ gz_wr u v) ∧ a = 0 ∧ s = 0) ∨
  (∃ (ix : Nat) (M : gx_M) (As : List gz_V) (b : Nat) (r : List gz_V) (ci n : Nat) (T9 : u_T) (n9 : Nat) (res : Option gz_V), gx_dec cc u.1 (.invokevirtual ix) ∧ u.2.2.1 = As.reverse ++ .inr (.inr (some b)) :: r ∧ b < 1000000 ∧ u.2.2.2.1[b]? = some (false, ci, n) ∧ vwCl[ci]? = some (M.1.cls, T9, n9) ∧ gx_lV ws0 own ix M As.length ∧ (r.map gz_c).sum ≤ 8 ∧ K M (.inr (.inr (some b)) :: As) u.2.2.2.1 u.2.2.2.2 res v.2.2.2.1 v.2.2.2.2 a s ∧
    (v.2.2.2.1 = u.2.2.2.1 ∨ (∀ q ∈ u.2.1, gz_okv u.2.2.2.1.length q.2) ∧ ∀ q ∈ r, gz_okv u.2.2.2.1.length q) ∧ v.1 = u.1 + 3 ∧ v.2.1 = u.2.1 ∧ v.2.2.1 = res.toList ++ r) ∨
  (∃ (ix : Nat) (M : gx_M) (As r : List gz_V) (res : Option gz_V), gx_dec cc u.1 (.invokestatic ix) ∧ u.2.2.1 = As.reverse ++ r ∧ gx_lS ws0 own ix M As.length ∧ (r.map gz_c).sum ≤ 8 ∧ K M As u.2.2.2.1 u.2.2.2.2 res v.2.2.2.1 v.2.2.2.2 a s ∧
    (v.2.2.2.1 = u.2.2.2.1 ∨ (∀ q ∈ u.2.1, gz_okv u.2.2.2.1.length q.2) ∧ ∀ q ∈ r, gz_okv u.2.2.2.1.length q) ∧ v.1 = u.1 + 3 ∧ v.2.1 = u.2.1 ∧ v.2.2.1 = res.toList ++ r) ∨
  (∃ (dflt lo hi : Int) (offs : Array Int) (x : Int) (t : Nat), gx_dec cc u.1 (.tableswitch dflt lo hi offs) ∧ u.2.2.1 = .inl x :: v.2.2.1 ∧ gz_R x ∧ ((x < lo ∨ hi < x) ∧ gx_t u.1 dflt = some t ∨ ∃ off, lo ≤ x ∧ x ≤ hi ∧ offs[(x - lo).toNat]? = some off ∧ gx_t u.1 off = some t) ∧ v.1 = t ∧ v.2.1 = u.2.1 ∧ v.2.2.2 = u.2.2.2 ∧ a = 0 ∧ s = 0) ∨
  (∃ (dflt : Int) (ps : Array (Int × Int)) (x : Int) (t : Nat), gx_dec cc u.1 (.lookupswitch dflt ps) ∧ u.2.2.1 = .inl x :: v.2.2.1 ∧ gz_R x ∧ (ps.toList.zip (ps.toList.drop 1)).all (fun (a, next) => a.1 < next.1) = true ∧ gx_t u.1 (Op.lookupswitch.offset ps.toList dflt x) = some t ∧ v.1 = t ∧ v.2.1 = u.2.1 ∧ v.2.2.2 = u.2.2.2 ∧ a = 0 ∧ s = 0) ∨
  (gx_dec cc u.1 (.ldc_w 619) ∧ own = RX13 ∧ v = (u.1 + 3, u.2.1, gz_sg :: u.2.2.1, u.2.2.2) ∧ a = 0 ∧ s = 0) ∨
  (∃ (ix : Nat) (c : Int) (r : List gz_V) (res : Option gz_V), gx_dec cc u.1 (.invokevirtual ix) ∧ u.2.2.1 = .inl c :: gz_sg :: r ∧ gx_lV ws0 own ix gz_Mx 1 ∧ (r.map gz_c).sum ≤ 8 ∧ K gz_Mx [gz_sg, .inl c] u.2.2.2.1 u.2.2.2.2 res v.2.2.2.1 v.2.2.2.2 a s ∧ v.2.2.2.1 = u.2.2.2.1 ∧ v.1 = u.1 + 3 ∧ v.2.1 = u.2.1 ∧ v.2.2.1 = res.toList ++ r) ∨
  gz_mk ws0 own cc u v a s ∨
  (∃ (ix : Nat) (M : gx_M) (As : List gz_V) (b : Nat) (r : List gz_V), gx_dec cc u.1 (.invokespecial ix) ∧ u.2.2.1 = As.reverse ++ .inr (.inr (some b)) :: r ∧ gz_lI ws0 own ix M As.length ∧ (r.map gz_c).sum ≤ 8 ∧ K M (.inr (.inr (some b)) :: As) u.2.2.2.1 u.2.2.2.2 none v.2.2.2.1 v.2.2.2.2 a s ∧
    (v.2.2.2.1 = u.2.2.2.1 ∨ (∀ q ∈ u.2.1, gz_okv u.2.2.2.1.length q.2) ∧ ∀ q ∈ r, gz_okv u.2.2.2.1.length q) ∧ v.1 = u.1 + 3 ∧ v.2.1 = u.2.1 ∧ v.2.2.1 = r)
def gz_to (one : gz_S → gz_S → Nat → Nat → Prop) : Nat → gz_S → gz_S → Nat → Nat → Prop
  | 0, u, v, a, s => u = v ∧ a = 0 ∧ s = 0
  | n + 1, u, v, a, s => ∃ (w : gz_S) (a1 s1 a2 s2 : Nat), one u w a1 s1 ∧ gz_to one n w v a2 s2 ∧ a = a1 + a2 ∧ s = s1 + s2
theorem gz_to_trans {one : gz_S → gz_S → Nat → Nat → Prop} : ∀ {n : Nat} {u v w : gz_S} {k a1 s1 a2 s2 : Nat}, gz_to one n u v a1 s1 → gz_to one k v w a2 s2 → gz_to one (n + k) u w (a1 + a2) (s1 + s2)
  | 0, u, v, w, k, a1, s1, a2, s2, h1, h2 => by
    obtain ⟨rfl, rfl, rfl⟩ := h1
    rw [Nat.zero_add, Nat.zero_add, Nat.zero_add]
    exact h2
  | n + 1, u, v, w, k, a1, s1, a2, s2, h1, h2 => by
    obtain ⟨x, b1, t1, b2, t2, h3, h4, rfl, rfl⟩ := h1
    rw [Nat.add_right_comm]
    exact ⟨x, b1, t1, b2 + a2, t2 + s2, h3, gz_to_trans h4 h2, Nat.add_assoc _ _ _, Nat.add_assoc _ _ _⟩
/-- the end: a return -/
def gz_fin (cc : ByteArray) (ret : Option FieldType) (u : gz_S) (r : Option gz_V) : Prop :=
  (gx_dec cc u.1 .return_ ∧ ret = none ∧ u.2.2.1 = [] ∧ r = none) ∨
  (∃ (x : Int) (ty : FieldType), gx_dec cc u.1 .ireturn ∧ ret = some ty ∧ (ty = .int ∨ ty = .boolean ∧ (x = 0 ∨ x = 1)) ∧ u.2.2.1 = [.inl x] ∧ r = some (.inl x)) ∨
  (∃ x : Int64, gx_dec cc u.1 .lreturn ∧ ret = some .long ∧ u.2.2.1 = [.inr (.inl x)] ∧ r = some (.inr (.inl x))) ∨
  (∃ (x : Option Nat) (rt : FieldType), gx_dec cc u.1 .areturn ∧ ret = some rt ∧ ((∃ n, rt = .object n) ∨ ∃ t, rt = .array t) ∧ u.2.2.1 = [.inr (.inr x)] ∧ r = some (.inr (.inr x)))
def gz_args : Nat → List gz_V → List (Nat × gz_V)
  | _, [] => []
  | i, v :: vs => (i, v) :: gz_args (if gz_two v then i + 2 else i + 1) vs
theorem gz_args_ok (sa : Nat → Nat) (L : List Nat) : ∀ (i : Nat) (vs : List gz_V), lv_args i (vs.map (gz_r sa L)) = (gz_args i vs).map (gz_q sa L)
  | _, [] => rfl
  | i, v :: vs => by
    show (i, gz_r sa L v) :: lv_args (if (gz_r sa L v).category = 2 then i + 2 else i + 1) (vs.map (gz_r sa L)) = _
    rw [gz_args_ok sa L _ vs, gz_c_ok]
    show _ = (i, gz_r sa L v) :: (gz_args (if gz_two v then i + 2 else i + 1) vs).map (gz_q sa L)
    unfold gz_c
    cases gz_two v <;> rfl
theorem gz_sl_len (sa : Nat → Nat) (L : List Nat) : ∀ vs : List gz_V, (lg_sl (vs.map (gz_r sa L))).length = (vs.map gz_c).sum
  | [] => rfl
  | v :: vs => by
    rw [List.map_cons, List.map_cons, List.sum_cons, ← gz_sl_len sa L vs]
    show (List.flatMap _ (gz_r sa L v :: vs.map (gz_r sa L))).length = _
    rw [List.flatMap_cons, List.length_append]
    refine congrArg (· + _) ?_
    rw [gz_c_ok]
    unfold gz_c
    cases gz_two v <;> rfl
/-! Math.min, Math.max: their class is none of the plain names; the library's own contracts serve for them. -/
def gj_Mi : gx_M := (yJ9_min_7cf53, cJ9_min_7cf53, 2, some .int)
def gj_Ml : gx_M := (yJ9_min_f86c9, cJ9_min_f86c9, 4, some .long)
def gj_Mx : gx_M := (yJ9_max_7cf53, cJ9_max_7cf53, 2, some .int)
def gz_lb (M : gx_M) (av : List gz_V) (r : Option gz_V) : Prop :=
  (M = gj_Mi ∧ ∃ a b : Int, gz_R a ∧ gz_R b ∧ av = [.inl a, .inl b] ∧ r = some (.inl (if b < a then b else a))) ∨
  (M = gj_Mx ∧ ∃ a b : Int, gz_R a ∧ gz_R b ∧ av = [.inl a, .inl b] ∧ r = some (.inl (if a < b then b else a))) ∨
  (M = gj_Ml ∧ ∃ a b : Int64, av = [.inr (.inl a), .inr (.inl b)] ∧ r = some (.inr (.inl (if b < a then b else a))))
def gz_lq : gz_K := fun M av sh h r shₚ hₚ a s => gz_lb M av r ∧ shₚ = sh ∧ hₚ = h ∧ a = 0 ∧ s = 0
theorem gz_lb_c {M : gx_M} {av : List gz_V} {r : Option gz_V} (h : gz_lb M av r) : M.1.cls = RJ9 := by
  rcases h with ⟨rfl, _⟩ | ⟨rfl, _⟩ | ⟨rfl, _⟩ <;> rfl
theorem gz_lb_n {M : gx_M} {av : List gz_V} {r : Option gz_V} (h : gz_lb M av r) (hn : M.1.name = "<init>") : False := by
  rcases h with ⟨rfl, _⟩ | ⟨rfl, _⟩ | ⟨rfl, _⟩
  · exact absurd hn (by decide)
  · exact absurd hn (by decide)
  · exact absurd hn (by decide)
theorem gz_cl9 : (vwCl.map (fun x => x.1)).all (fun x => x != RJ9) = true := by decide +kernel
theorem gz_lb_v {M : gx_M} {av : List gz_V} {r : Option gz_V} {ci n9 : Nat} {T9 : u_T} (h : gz_lb M av r) (hc : vwCl[ci]? = some (M.1.cls, T9, n9)) : False := by
  have h1 := List.all_eq_true.mp gz_cl9 M.1.cls (List.mem_map.mpr ⟨_, List.mem_of_getElem? hc, rfl⟩)
  rw [gz_lb_c h] at h1
  exact absurd h1 (by decide)
theorem gz_ltI {a b : Int} (ha : gz_R a) (hb : gz_R b) : (Int32.ofInt a < Int32.ofInt b) ↔ a < b := by
  rw [Int32.lt_iff_toInt_lt, gz_toInt ha, gz_toInt hb]
/-- a method's run, with at most d methods open at once -/
def gz_Ev (ws0 : List Cond) (tb : String → gz_T) : Nat → gz_K
  | 0 => fun _ _ _ _ _ _ _ _ _ => False
  | d + 1 => fun M av sh h r shₚ hₚ a s => ((M = gz_Mx ∧ 8 ≤ d ∧ shₚ = sh ∧ hₚ = h ∧ a = 0 ∧ s = 0 ∧ ∃ c : Int, gz_R c ∧ av = [gz_sg, .inl c] ∧ r = some (.inl (gz_ixf c))) ∨ (M.1.name = "<init>" ∧ plainName M.1.cls = true ∧ (av.map gz_c).sum ≤ M.2.2.1 ∧ ∃ (n : Nat) (u : gz_S), gz_to (gz_do ws0 M.1.cls (gz_fi (tb M.1.cls)) M.2.1 M.2.2.1 (gz_Ev ws0 tb d)) n (0, gz_args 0 av, [], sh, h) u a s ∧ gz_fin M.2.1 M.2.2.2 u r ∧ u.2.2.2.1 = shₚ ∧ u.2.2.2.2 = hₚ)) ∨ gz_lq M av sh h r shₚ hₚ a s ∨ plainName M.1.cls = true ∧ (av.map gz_c).sum ≤ M.2.2.1 ∧ ∃ (n : Nat) (u : gz_S), gz_to (gz_do ws0 M.1.cls (tb M.1.cls) M.2.1 M.2.2.1 (gz_Ev ws0 tb d)) n (0, gz_args 0 av, [], sh, h) u a s ∧ gz_fin M.2.1 M.2.2.2 u r ∧ u.2.2.2.1 = shₚ ∧ u.2.2.2.2 = hₚ
def gz_rm (d a s : Nat) : Room := { frames := d, cells := a, slots := s, locals := 64 * d }
def gz_Q (D : va_G) (cy : Nat → ClassId) (sa : Nat → Nat) (A : Nat → Prop) (L : List Nat) (r : Option gz_V) (sh : gz_Sh) (h : gz_H) : Array Value → State → Outcome → State → Prop := fun _ st oc t => (∃ Lₚ : List Nat, L <+: Lₚ ∧ Lₚ.length = sh.length ∧ oc = .returned (r.map (gz_r sa Lₚ)) ∧ pw_B D A (Lₚ, gz_f cy sa Lₚ sh h) t) ∧ va_F A st t
def gz_Met (l : Launch) (D : va_G) (cy : Nat → ClassId) (sa : Nat → Nat) (sv : Nat) (ws0 : List Cond) (d : Nat) : gz_K := fun M av sh h r shₚ hₚ a s =>
  ∀ (sz : Nat) (L : List Nat), L.length = sh.length → Met l M.1 (gx_code M :: ws0) (gz_rm d a s) (gz_Pc D cy sa sv (av.map (gz_r sa L)) sz L (gz_f cy sa L sh h)) (gz_Q D cy sa (pw_A L (gz_f cy sa L sh h) sz) L r shₚ hₚ) a s (pw_A L (gz_f cy sa L sh h) sz)
theorem gx_gI {ws0 : List Cond} {M : gx_M} (hg : ∀ w ∈ ws0, goodWord w = true) (h : gx_code M ∈ ws0) : GoodIn ws0 (gx_code M :: ws0) := fun w hw => by
  rcases List.mem_cons.mp hw with rfl | h1
  · exact ⟨h, good_of_word (hg _ h)⟩
  · exact ⟨h1, good_of_word (hg _ h1)⟩
def lv_room' (r : List Value) : Prop := (r.map fun v => v.category).sum ≤ 8
section GW
variable {p : Program} {l : Launch} {e : Env} {R : Room} {s : State} {m : MethodId} {args : Array Value} {below : List Frame} {meth : Method} {c : Code} {H : Heap} {locs : List Loc} {cells slots : Nat} {Q : State → Prop}
variable {cc : ByteArray} {pc N d a1 s1 : Nat} {ls : Array Slot} {D : va_G} {cy : Nat → ClassId} {sa : Nat → Nat} {A : Nat → Prop} {L : List Nat} {sh shₚ : gz_Sh} {h hₚ : gz_H} {ws0 : List Cond} {own : String} {T : gz_T}
theorem gz_behind {st0 rest : List Value} {a : Array Value} {r : Option gz_V} (hw : pw_W D A s.heap L (gz_f cy sa L sh h) H locs)
    (hr : va_Run p l e R s m args below meth c H locs cells slots a1 s1 (F0 m pc ls st0) rest (gz_Q D cy sa (pw_A L (gz_f cy sa L sh h) H.size) L r shₚ hₚ a) (pw_A L (gz_f cy sa L sh h) H.size))
    (kk : ∀ (Lₚ : List Nat) (H1 : Heap) (locs1 : List Loc), L <+: Lₚ → Lₚ.length = shₚ.length → pw_W D A s.heap Lₚ (gz_f cy sa Lₚ shₚ hₚ) H1 locs1 → W p l e R s m args below meth c H1 locs1 (cells + a1) (slots + s1) Q (F0 m (pc + 3) ls ((r.map (gz_r sa Lₚ)).toList ++ rest))) : W p l e R s m args below meth c H locs cells slots Q (F0 m pc ls st0) := by
  have hF : ∀ q, pw_A L (gz_f cy sa L sh h) H.size q → A q := fun q h => by
    rcases h with ⟨k, e1, h⟩ | h
    · exact hw.2.1.2 k _ h
    · exact hw.2.2.2 q (Nat.le_trans hw.2.2.1.1 h)
  intro T hT X
  obtain ⟨v, st₀, t, T', L9, h0, X', hL, e1, e2, ⟨⟨Lₚ, hp, hlen, hv, hP1, hD1⟩, hz, hk⟩, sg⟩ := hr T hT X
  cases hv
  rw [h0] at hz hk
  obtain ⟨t2, b1, b2⟩ := kk Lₚ T'.heap (locs ++ L9) hp hlen ⟨by rw [e1]; exact hP1, hD1.weaken (fun k q _ h => hF q.1 h), ⟨Nat.le_trans hw.2.2.1.1 (by rw [e1]; exact hz), fun q h1 h2 => by rw [e1, hk q (Nat.lt_of_lt_of_le h1 hw.2.2.1.1) (fun z => h2 (hF q z))]; exact hw.2.2.1.2.1 q h1 h2, fun q hq => by
      rcases List.mem_append.mp hq with h | h
      · exact hw.2.2.1.2.2 q h
      · exact hF _ (hL q h)⟩, hw.2.2.2⟩ T' rfl X'
  exact ⟨t2, sg t2 b1, b2⟩
theorem gz_keep {Lₚ : List Nat} (hp : L <+: Lₚ) (hlen : L.length = sh.length) (hlen' : Lₚ.length = shₚ.length) {lv : List (Nat × gz_V)} {r : List gz_V} (hok : shₚ = sh ∨ (∀ q ∈ lv, gz_okv sh.length q.2) ∧ ∀ q ∈ r, gz_okv sh.length q) : lv.map (gz_q sa Lₚ) = lv.map (gz_q sa L) ∧ r.map (gz_r sa Lₚ) = r.map (gz_r sa L) := by
  rcases hok with rfl | ⟨h1, h2⟩
  · have : L = Lₚ := hp.eq_of_length (by rw [hlen, hlen'])
    subst this
    exact ⟨rfl, rfl⟩
  · refine ⟨List.map_congr_left (fun q hq => ?_), List.map_congr_left (fun q hq => ?_)⟩
    · unfold gz_q
      rw [gz_r_ext hp (by rw [hlen]; exact h1 q hq)]
    · exact gz_r_ext hp (by rw [hlen]; exact h2 q hq)
theorem gz_do_ok (hg : ∀ w ∈ ws0, goodWord w = true) (hx : p.tables.exec = Jvm.exec) (hb : c.code = cc) (hml : c.maxLocals = N) (hts : ∀ w ∈ ws0, w.before args s = true) (hown : s.vm.findClass own = some m.cls) (hG : pw_G D cy s) {ini : Bool} (hT : gz_okm ini ws0 own T) (hni : ini = true → meth.name = "<init>") {sv : Nat} (hX : gz_X sa sv A s s.heap)
    {K : gz_K} (hK : ∀ M av sh h r shₚ hₚ a s, gx_code M ∈ ws0 → K M av sh h r shₚ hₚ a s → gz_lq M av sh h r shₚ hₚ a s ∨ gz_Met l D cy sa sv ws0 d M av sh h r shₚ hₚ a s) (hR : d + 1 ≤ R.frames ∧ 64 * (d + 1) ≤ R.locals) {u v : gz_S} (hs : gz_do ws0 own T cc N K u v a1 s1) (hf : cells + a1 ≤ R.cells ∧ slots + s1 ≤ R.slots) (hL : L.length = u.2.2.2.1.length) (hl : lv_has ls N (u.2.1.map (gz_q sa L))) (hw : pw_W D A s.heap L (gz_f cy sa L u.2.2.2.1 u.2.2.2.2) H locs)
    (kk : ∀ (Lₚ : List Nat) (ls1 : Array Slot) (H1 : Heap) (locs1 : List Loc), L <+: Lₚ → Lₚ.length = v.2.2.2.1.length → lv_has ls1 N (v.2.1.map (gz_q sa Lₚ)) → pw_W D A s.heap Lₚ (gz_f cy sa Lₚ v.2.2.2.1 v.2.2.2.2) H1 locs1 → W p l e R s m args below meth c H1 locs1 (cells + a1) (slots + s1) Q (F0 m v.1 ls1 (v.2.2.1.map (gz_r sa Lₚ)))) : W p l e R s m args below meth c H locs cells slots Q (F0 m u.1 ls (u.2.2.1.map (gz_r sa L))) := by
  by_cases hmk : gz_mk ws0 own cc u v a1 s1
  · exact gz_mk_ok hX.2.2.2 hx hb hml hts hown hG ⟨by omega, by omega⟩ hmk hf hL hl hw kk
  obtain ⟨upc, ulv, ust, ush, uh⟩ := u
  obtain ⟨vpc, vlv, vst, vsh, vh⟩ := v
  rcases hs with ⟨b, i, C, hd, h1, hC, h2, rfl, rfl⟩ | ⟨h1, h2, h3, rfl, rfl⟩ | ⟨ix, M, As, b, r, ci, n, T9, n9, res, hd, h1, hb6, hsh, hc, hV, h8, hk, hok, h2, h3, h4⟩ | ⟨ix, M, As, r, res, hd, h1, hV, h8, hk, hok, h2, h3, h4⟩ | ⟨dflt, lo, hi, offs, x, t, hd, h1, hR9, h2, h3, h4, h5, rfl, rfl⟩ | ⟨dflt, ps, x, t, hd, h1, hR9, hso, h2, h3, h4, h5, rfl, rfl⟩ | ⟨hd, ho, h1, rfl, rfl⟩ | ⟨ix, cx, r, res, hd, h1, hV, h8, hk, hsh, h2, h3, h4⟩ | hmk2 | ⟨ix, M, As, b, r, hd, h1, hV, h8, hk, hok, h2, h3, h4⟩
  · dsimp only at *
    subst h2
    exact gz_step_ok hx hb hts hown hG hT hni hd hL hl hw h1 hC (fun ls1 H1 locs1 hl1 hw1 => kk L ls1 H1 locs1 (List.prefix_refl L) hL hl1 hw1)
  · dsimp only at *
    subst h2
    have hl9 : lv_has ls N (vlv.map (gz_q sa L)) := ⟨hl.1, hl.2.1, fun q hq => by
      obtain ⟨x, hx1, rfl⟩ := List.mem_map.mp hq
      exact hl.2.2 _ (List.mem_map.mpr ⟨x, h1 x hx1, rfl⟩)⟩
    rcases h3 with h3 | ⟨z, r, h4, h3⟩
    · cases h3
      exact kk L ls H locs (List.prefix_refl L) hL hl9 hw
    · dsimp only at h3 h4
      cases h3
      subst h4
      have h9 := kk L ls H locs (List.prefix_refl L) hL hl9 hw
      have e9 : (Sum.inl (Int32.ofInt z).toInt :: r : List gz_V).map (gz_r sa L) = (Sum.inl z :: r : List gz_V).map (gz_r sa L) := by
        show Value.int (Int32.ofInt (Int32.ofInt z).toInt) :: _ = Value.int (Int32.ofInt z) :: _
        rw [gz_back]
      rw [e9] at h9
      exact h9
  · dsimp only at *
    subst h1 h2 h3 h4
    have hrm : (gz_rm d a1 s1).frames + 1 ≤ R.frames ∧ 8 + (M.2.2.1 + 11) + (gz_rm d a1 s1).locals ≤ R.locals := ⟨hR.1, by have := hV.2.2.2.2.2.2; have := hR.2; show 8 + (M.2.2.1 + 11) + 64 * d ≤ R.locals; omega⟩
    obtain ⟨hbL, hfb⟩ := gz_at (cy := cy) (sa := sa) (h := uh) (pw_nd hw) hL hsh hb6
    obtain ⟨k0, hk0⟩ := va_pl_get (X := []) (f := gz_f cy sa L ush uh) hbL
    rw [hfb] at hk0
    have e1 : (As.reverse ++ Sum.inr (Sum.inr (some b)) :: r).map (gz_r sa L) = (As.map (gz_r sa L)).reverse ++ Value.ref (gz_al sa L b) :: r.map (gz_r sa L) := by
      rw [List.map_append, List.map_reverse]
      rfl
    rw [e1]
    refine gz_behind hw (va_runV (C := M.1.cls) (As := As.map (gz_r sa L)) (rest := r.map (gz_r sa L)) (Ts := ws0) (own := own) ⟨hx, hb, hml, hown, hts⟩ ((hK M _ ush uh res vsh vh a1 s1 hV.1 hk).resolve_left (fun q => gz_lb_v q.1 hc) H.size L hL) (cwV As.length hts (gx_gV hg hV) rfl rfl rfl ⟨rfl, hV.2.2.2.2.2.1⟩ hrm) ⟨gz_blind, va_recv hG.1 hw.1 hc hk0, gz_pre hG hX hw⟩ rfl (by rw [List.length_map]) hl.1 rfl (lv_room (by rw [List.map_map]; refine Nat.le_trans (Nat.le_of_eq (congrArg List.sum (List.map_congr_left (fun q _ => gz_c_ok sa L q)))) h8)) (gx_d hd rfl rfl) hf) (fun Lₚ H1 locs1 hp hlen hw1 => ?_)
    obtain ⟨e2, e3⟩ := gz_keep (sa := sa) hp hL hlen hok
    have h9 := kk Lₚ ls H1 locs1 hp hlen (by rw [e2]; exact hl) hw1
    rw [List.map_append, e3] at h9
    cases res with
    | none => exact h9
    | some x => exact h9
  · dsimp only at *
    subst h1 h2 h3 h4
    rcases hK M _ ush uh res vsh vh a1 s1 hV.1 hk with hq9 | hm9
    · obtain ⟨hlb, rfl, rfl, rfl, rfl⟩ := hq9
      have h89 : ((r.map (gz_r sa L)).map fun v => v.category).sum ≤ 8 := by
        rw [List.map_map]
        exact Nat.le_trans (Nat.le_of_eq (congrArg List.sum (List.map_congr_left (fun q _ => gz_c_ok sa L q)))) h8
      have hml9 : c.maxLocals = ls.size := hml.trans hl.1.symm
      have hi9 := hts _ hV.2.2.2.1
      have hl9 := hts _ hV.2.1
      have hs9 := hts _ hV.2.2.1
      have hc9 := hts _ hV.1
      have k9 := kk L ls H locs (List.prefix_refl L) hL hl hw
      rcases hlb with ⟨rfl, a, b, ha, hb9, rfl, rfl⟩ | ⟨rfl, a, b, ha, hb9, rfl, rfl⟩ | ⟨rfl, a, b, rfl, rfl⟩
      · have e9 : (if Int32.ofInt b < Int32.ofInt a then Int32.ofInt b else Int32.ofInt a) = Int32.ofInt (if b < a then b else a) := by
          by_cases c9 : b < a
          · rw [if_pos c9, if_pos ((gz_ltI hb9 ha).mpr c9)]
          · rw [if_neg c9, if_neg (fun q => c9 ((gz_ltI hb9 ha).mp q))]
        refine va_mmin (x := Int32.ofInt a) (y := Int32.ofInt b) (rest := r.map (gz_r sa L)) hx hb hml9 hown hl9 hs9 hi9 hc9 (by omega) (by omega) (by omega) (by omega) (gx_d hd rfl rfl) ?_
        rw [e9]
        exact k9
      · have e9 : (if Int32.ofInt a < Int32.ofInt b then Int32.ofInt b else Int32.ofInt a) = Int32.ofInt (if a < b then b else a) := by
          by_cases c9 : a < b
          · rw [if_pos c9, if_pos ((gz_ltI ha hb9).mpr c9)]
          · rw [if_neg c9, if_neg (fun q => c9 ((gz_ltI ha hb9).mp q))]
        refine va_mmax (x := Int32.ofInt a) (y := Int32.ofInt b) (rest := r.map (gz_r sa L)) hx hb hml9 hown hl9 hs9 hi9 hc9 (by omega) (by omega) (by omega) (by omega) (gx_d hd rfl rfl) ?_
        rw [e9]
        exact k9
      · exact va_mmin_long (x := a) (y := b) (rest := r.map (gz_r sa L)) hx hb hml9 hown hl9 hs9 hi9 hc9 (by omega) (by omega) (by omega) (by omega) (gx_d hd rfl rfl) k9
    · have hrm : (gz_rm d a1 s1).frames + 1 ≤ R.frames ∧ 8 + (M.2.2.1 + 11) + (gz_rm d a1 s1).locals ≤ R.locals := ⟨hR.1, by have := hV.2.2.2.2.2; have := hR.2; show 8 + (M.2.2.1 + 11) + 64 * d ≤ R.locals; omega⟩
      have e1 : (As.reverse ++ r).map (gz_r sa L) = (As.map (gz_r sa L)).reverse ++ r.map (gz_r sa L) := by
        rw [List.map_append, List.map_reverse]
      rw [e1]
      refine gz_behind hw (va_runS (As := As.map (gz_r sa L)) (rest := r.map (gz_r sa L)) (Ts := ws0) (own := own) ⟨hx, hb, hml, hown, hts⟩ (hm9 H.size L hL) (va_cwS As.length hts (gx_gS hg hV) rfl rfl rfl hV.2.2.2.2.1 hrm) ⟨gz_blind, gz_pre hG hX hw⟩ rfl (by rw [List.length_map]) hl.1 rfl (lv_room (by rw [List.map_map]; refine Nat.le_trans (Nat.le_of_eq (congrArg List.sum (List.map_congr_left (fun q _ => gz_c_ok sa L q)))) h8)) (gx_d hd rfl rfl) hf) (fun Lₚ H1 locs1 hp hlen hw1 => ?_)
      obtain ⟨e2, e3⟩ := gz_keep (sa := sa) hp hL hlen hok
      have h9 := kk Lₚ ls H1 locs1 hp hlen (by rw [e2]; exact hl) hw1
      rw [List.map_append, e3] at h9
      cases res with
      | none => exact h9
      | some x => exact h9
  · dsimp only at *
    subst h1 h3 h4
    cases h5
    obtain ⟨len, hd, -⟩ := hd
    have hx9 : (Int32.ofInt x).toInt = x := gz_toInt hR9
    rcases h2 with ⟨h2, ht⟩ | ⟨off, h6, h7, ho, ht⟩
    · exact lv_tableOut hx hb hd (by rw [hx9]; exact h2) (gx_t_ok ht) (kk L ls H locs (List.prefix_refl L) hL hl hw)
    · exact lv_tableIn hx hb hd (by rw [hx9]; omega) (by rw [hx9]; omega) (by rw [hx9]; exact ho) (gx_t_ok ht) (kk L ls H locs (List.prefix_refl L) hL hl hw)
  · dsimp only at *
    subst h1 h3 h4
    cases h5
    obtain ⟨len, hd, -⟩ := hd
    have hx9 : (Int32.ofInt x).toInt = x := gz_toInt hR9
    exact lv_lookup hx hb hd hso (by rw [hx9]) (gx_t_ok h2) (kk L ls H locs (List.prefix_refl L) hL hl hw)
  · cases h1
    subst ho
    exact py_ldcSW hx hb hown hX.2.2.1 (gx_d hd rfl rfl) (kk L ls H locs (List.prefix_refl L) hL hl hw)
  · dsimp only at *
    subst h1 h2 h3 h4 hsh
    have hrm : (gz_rm d a1 s1).frames + 1 ≤ R.frames ∧ 8 + (gz_Mx.2.2.1 + 11) + (gz_rm d a1 s1).locals ≤ R.locals := ⟨hR.1, by have := hV.2.2.2.2.2.2; have := hR.2; show 8 + (gz_Mx.2.2.1 + 11) + 64 * d ≤ R.locals; omega⟩
    obtain ⟨cell, c1, c2, c3, -⟩ := hX.2.1.1.kept hw.2.2.1.2.1
    refine gz_behind hw (va_runV (C := RJ0) (As := [.int (Int32.ofInt cx)]) (rest := r.map (gz_r sa L)) (Ts := ws0) (own := own) ⟨hx, hb, hml, hown, hts⟩ ((hK gz_Mx _ vsh uh res vsh vh a1 s1 hV.1 hk).resolve_left (fun q => absurd (gz_lb_c q.1) (by decide)) H.size L hL) (cwV 1 hts (gx_gV hg hV) rfl rfl rfl ⟨rfl, hV.2.2.2.2.2.1⟩ hrm) ⟨gz_blind, ⟨cell, c1, c2, c3⟩, gz_pre hG hX hw⟩ rfl rfl hl.1 rfl (lv_room (by rw [List.map_map]; refine Nat.le_trans (Nat.le_of_eq (congrArg List.sum (List.map_congr_left (fun q _ => gz_c_ok sa L q)))) h8)) (gx_d hd rfl rfl) hf) (fun Lₚ H1 locs1 hp hlen hw1 => ?_)
    obtain ⟨e2, e3⟩ := gz_keep (sa := sa) (lv := vlv) (r := r) hp hL hlen (Or.inl rfl)
    have h9 := kk Lₚ ls H1 locs1 hp hlen (by rw [e2]; exact hl) hw1
    rw [List.map_append, e3] at h9
    cases res with
    | none => exact h9
    | some x => exact h9
  · exact absurd hmk2 hmk
  · dsimp only at *
    subst h1 h2 h3 h4
    obtain ⟨y, cc1, n1, ret⟩ := M
    obtain ⟨g1, g2, g3, g4, g5, g6, g7, g8⟩ := hV
    dsimp only at *
    subst g5
    have hrm : (gz_rm d a1 s1).frames + 1 ≤ R.frames ∧ 8 + (n1 + 11) + (gz_rm d a1 s1).locals ≤ R.locals := ⟨hR.1, by have := hR.2; show 8 + (n1 + 11) + 64 * d ≤ R.locals; omega⟩
    have e1 : (As.reverse ++ Sum.inr (Sum.inr (some b)) :: vst).map (gz_r sa L) = (As.map (gz_r sa L)).reverse ++ Value.ref (gz_al sa L b) :: vst.map (gz_r sa L) := by
      rw [List.map_append, List.map_reverse]
      rfl
    rw [e1]
    have hgi : GoodIn ws0 (gx_code (y, cc1, n1, none) :: ws0) := gx_gI hg g1
    have hsum : lv_room' (vst.map (gz_r sa L)) := by
      unfold lv_room'
      rw [List.map_map]
      exact Nat.le_trans (Nat.le_of_eq (congrArg List.sum (List.map_congr_left (fun q _ => gz_c_ok sa L q)))) h8
    have fin : ∀ (Lₚ : List Nat) (H1 : Heap) (locs1 : List Loc), L <+: Lₚ → Lₚ.length = vsh.length → pw_W D A s.heap Lₚ (gz_f cy sa Lₚ vsh vh) H1 locs1 → W p l e R s m args below meth c H1 locs1 (cells + a1) (slots + s1) Q (F0 m (upc + 3) ls ((Option.map (gz_r sa Lₚ) none).toList ++ vst.map (gz_r sa L))) := fun Lₚ H1 locs1 hp hlen hw1 => by
      obtain ⟨e2, e3⟩ := gz_keep (sa := sa) hp hL hlen hok
      have h9 := kk Lₚ ls H1 locs1 hp hlen (by rw [e2]; exact hl) hw1
      rw [e3] at h9
      exact h9
    rcases g8 with g8 | ⟨rfl, rfl, rfl⟩
    · exact gz_behind hw (va_runI (As := As.map (gz_r sa L)) (rest := vst.map (gz_r sa L)) (Ts := ws0) (own := own) ⟨hx, hb, hml, hown, hts⟩ ((hK (y, cc1, n1, none) _ ush uh none vsh vh a1 s1 g1 hk).resolve_left (fun q => gz_lb_n q.1 g4) H.size L hL) (cwI As.length hts hgi rfl rfl rfl (hts _ g2) (hts _ g8) (hts _ g3) g4 g6 hrm) ⟨gz_blind, gz_pre hG hX hw⟩ rfl (by rw [List.length_map]) hl.1 rfl (lv_room hsum) (gx_d hd rfl rfl) hf) fin
    · exact gz_behind hw (va_runIN (host := RX12) (As := As.map (gz_r sa L)) (rest := vst.map (gz_r sa L)) (Ts := ws0) (own := RX6) ⟨hx, hb, hml, hown, hts⟩ ((hK (yX3_init, cc1, n1, none) _ ush uh none vsh vh a1 s1 g1 hk).resolve_left (fun q => gz_lb_n q.1 g4) H.size L hL) ⟨va_cnB As.length hts hgi rfl rfl rfl hG.2.1.2.2.2 (hts _ g2) g6 hrm, rfl, hts _ g3⟩ ⟨gz_blind, gz_pre hG hX hw⟩ rfl (by rw [List.length_map]) hl.1 rfl (lv_room hsum) (gx_d hd rfl rfl) hf) fin
set_option maxHeartbeats 8000000 in
theorem gz_to_ok (hg : ∀ w ∈ ws0, goodWord w = true) (hx : p.tables.exec = Jvm.exec) (hb : c.code = cc) (hml : c.maxLocals = N) (hts : ∀ w ∈ ws0, w.before args s = true) (hown : s.vm.findClass own = some m.cls) (hG : pw_G D cy s) {ini : Bool} (hT : gz_okm ini ws0 own T) (hni : ini = true → meth.name = "<init>") {sv : Nat} (hX : gz_X sa sv A s s.heap)
    {K : gz_K} (hK : ∀ M av sh h r shₚ hₚ a s, gx_code M ∈ ws0 → K M av sh h r shₚ hₚ a s → gz_lq M av sh h r shₚ hₚ a s ∨ gz_Met l D cy sa sv ws0 d M av sh h r shₚ hₚ a s) (hR : d + 1 ≤ R.frames ∧ 64 * (d + 1) ≤ R.locals) : ∀ (n : Nat) (u v : gz_S) (cells slots a1 s1 : Nat) (L : List Nat) (ls : Array Slot) (H : Heap) (locs : List Loc), gz_to (gz_do ws0 own T cc N K) n u v a1 s1 → cells + a1 ≤ R.cells ∧ slots + s1 ≤ R.slots → L.length = u.2.2.2.1.length → lv_has ls N (u.2.1.map (gz_q sa L)) → pw_W D A s.heap L (gz_f cy sa L u.2.2.2.1 u.2.2.2.2) H locs →
    (∀ (Lₚ : List Nat) (ls1 : Array Slot) (H1 : Heap) (locs1 : List Loc), L <+: Lₚ → Lₚ.length = v.2.2.2.1.length → lv_has ls1 N (v.2.1.map (gz_q sa Lₚ)) → pw_W D A s.heap Lₚ (gz_f cy sa Lₚ v.2.2.2.1 v.2.2.2.2) H1 locs1 → W p l e R s m args below meth c H1 locs1 (cells + a1) (slots + s1) Q (F0 m v.1 ls1 (v.2.2.1.map (gz_r sa Lₚ)))) → W p l e R s m args below meth c H locs cells slots Q (F0 m u.1 ls (u.2.2.1.map (gz_r sa L)))
  | 0, u, v, cells, slots, a1, s1, L, ls, H, locs, h, hf, hL, hl, hw, kk => by
    obtain ⟨rfl, rfl, rfl⟩ := h
    exact kk L ls H locs (List.prefix_refl L) hL hl hw
  | n + 1, u, v, cells, slots, a1, s1, L, ls, H, locs, h, hf, hL, hl, hw, kk => by
    obtain ⟨w, b1, t1, b2, t2, h1, h2, rfl, rfl⟩ := h
    refine gz_do_ok hg hx hb hml hts hown hG hT hni hX hK hR h1 ⟨by exact gz_m 0 (by omega), by exact gz_m 1 (by omega)⟩ hL hl hw (fun Lₚ ls1 H1 locs1 hp hL1 hl1 hw1 => ?_)
    refine gz_to_ok hg hx hb hml hts hown hG hT hni hX hK hR n w v (cells + b1) (slots + t1) b2 t2 Lₚ ls1 H1 locs1 h2 ⟨by exact gz_m 2 (by omega), by exact gz_m 3 (by omega)⟩ hL1 hl1 hw1 (fun L'' ls2 H2 locs2 hp2 hL2 hl2 hw2 => ?_)
    have h9 := kk L'' ls2 H2 locs2 (hp.trans hp2) hL2 hl2 hw2
    rw [← Nat.add_assoc, ← Nat.add_assoc] at h9
    exact h9
theorem gz_fin_ok (hx : p.tables.exec = Jvm.exec) (hb : c.code = cc) (hlocks : meth.locks = false) {L0 : List Nat} {f0 : Nat → va_E} {sz : Nat} {r : Option gz_V} {u : gz_S} {ret : Option FieldType} (hr : meth.sig.returnType = ret) (h : gz_fin cc ret u r) (hp : L0 <+: L) (hL : L.length = u.2.2.2.1.length) (hw : pw_W D (pw_A L0 f0 sz) s.heap L (gz_f cy sa L u.2.2.2.1 u.2.2.2.2) H locs) :
    W p l e R s m args below meth c H locs cells slots (MQ below (gz_Q D cy sa (pw_A L0 f0 sz) L0 r u.2.2.2.1 u.2.2.2.2) args s cells slots (pw_A L0 f0 sz)) (F0 m u.1 ls (u.2.2.1.map (gz_r sa L))) := by
  rcases h with ⟨hd, rfl, h1, rfl⟩ | ⟨x, ty, hd, rfl, hn, h1, rfl⟩ | ⟨x, hd, rfl, h1, rfl⟩ | ⟨x, rt, hd, rfl, ht, h1, rfl⟩
  · rw [h1]
    exact W.vret hx hb hr (fun t ht hW => ⟨⟨L, hp, hL, rfl, by rw [ht]; exact hw.1, hw.2.1⟩, hw.2.2.1.F ht⟩) hw.2.2.1.2.2 (gx_d hd rfl rfl)
  · rw [h1]
    have hn9 : narrow ty (.int (Int32.ofInt x)) = .int (Int32.ofInt x) := by
      rcases hn with rfl | ⟨rfl, rfl | rfl⟩
      · rfl
      · decide
      · decide
    exact W.zret hx hb hr hn9 (fun t ht hW => ⟨⟨L, hp, hL, rfl, by rw [ht]; exact hw.1, hw.2.1⟩, hw.2.2.1.F ht⟩) hw.2.2.1.2.2 (gx_d hd rfl rfl)
  · rw [h1]
    exact W.lret hx hb hr (fun t ht hW => ⟨⟨L, hp, hL, rfl, by rw [ht]; exact hw.1, hw.2.1⟩, hw.2.2.1.F ht⟩) hw.2.2.1.2.2 (gx_d hd rfl rfl)
  · rw [h1]
    exact W.aret hx hb hr ht (by cases x with
      | none => exact Or.inl rfl
      | some a => exact Or.inr ⟨_, rfl⟩) (fun t ht hW => ⟨⟨L, hp, hL, rfl, by rw [ht]; exact hw.1, hw.2.1⟩, hw.2.2.1.F ht⟩) hw.2.2.1.2.2 (gx_d hd rfl rfl)
end GW
/-- a run is a contract -/
theorem gz_met {l : Launch} {D : va_G} {cy : Nat → ClassId} {sa : Nat → Nat} {ws0 : List Cond} {tb : String → gz_T} (hg : ∀ w ∈ ws0, goodWord w = true) (hpl : ∀ y cc n ret, Cond.code y cc n ret ∈ ws0 → plainName y.cls = true → gz_ok ws0 y.cls (tb y.cls)) {sv : Nat} (hIx : ∀ (d : Nat) (sh : gz_Sh) (h : gz_H) (c : Int), 8 ≤ d → gz_R c → gz_Met l D cy sa sv ws0 (d + 1) gz_Mx [gz_sg, .inl c] sh h (some (.inl (gz_ixf c))) sh h 0 0) : ∀ (d : Nat) (M : gx_M) (av : List gz_V) (sh : gz_Sh) (h : gz_H) (r : Option gz_V) (shₚ : gz_Sh) (hₚ : gz_H) (a s : Nat), gx_code M ∈ ws0 → gz_Ev ws0 tb d M av sh h r shₚ hₚ a s → gz_lq M av sh h r shₚ hₚ a s ∨ gz_Met l D cy sa sv ws0 d M av sh h r shₚ hₚ a s
  | 0, _, _, _, _, _, _, _, _, _, _, h => h.elim
  | d + 1, M, av, sh, h, r, shₚ, hₚ, a, sl, hc, Or.inl (Or.inl hE) => by
    obtain ⟨rfl, h8, rfl, rfl, rfl, rfl, c, hR, rfl, rfl⟩ := hE
    exact Or.inr (hIx d _ _ c h8 hR)
  | d + 1, M, av, sh, h, r, shₚ, hₚ, a, sl, hc, Or.inr (Or.inl hE) => Or.inl hE
  | d + 1, M, av, sh, h, r, shₚ, hₚ, a, sl, hc, Or.inl (Or.inr hE) => Or.inr (fun sz L hL => by
    obtain ⟨hnm9, hpn, hlen, n, u, hto, hfin, rfl, rfl⟩ := hE
    refine Met.ofW (cc := M.2.1) (maxL := M.2.2.1) (ret := M.2.2.2) hpn rfl ?_
    intro p e s m args below meth c s₁ B hml hv
    obtain ⟨rfl, hsz, hG, hX, hP, hD0⟩ := hv
    have hts := atoms_spec (ws := gx_code M :: ws0) B.pre
    have hpp := fun (w : Cond) (h : w ∈ ws0) => hts w (List.mem_cons_of_mem _ h)
    have hown : s.vm.findClass M.1.cls = some m.cls := findClass_of_methodNamed B.named
    have hw := pw_start (cy := cy) hsz hP hD0
    have hl := lv_entry (av.map (gz_r sa L)) (n := M.2.2.1) (by rw [gz_sl_len]; exact hlen)
    rw [lg_entry_eq]
    generalize (lg_sl (av.map (gz_r sa L)) ++ List.replicate (M.2.2.1 - (lg_sl (av.map (gz_r sa L))).length) Slot.unset).toArray = ls at hl ⊢
    rw [gz_args_ok] at hl
    have h9 := gz_to_ok (l := l) (e := e) (below := below) (meth := meth) (R := (headSpec (gx_code M :: ws0) (gz_rm (d + 1) a sl)).room) (Q := MQ below (gz_Q D cy sa (pw_A L (gz_f cy sa L sh h) sz) L r u.2.2.2.1 u.2.2.2.2) (av.map (gz_r sa L)).toArray s a sl (pw_A L (gz_f cy sa L sh h) sz)) (d := d) (K := gz_Ev ws0 tb d) hg B.exec B.bytes hml hpp hown hG (gz_ok_i (hpl _ _ _ _ hc hpn)) (fun _ => (name_of_methodNamed B.named B.method).1.trans hnm9) hX (fun M av sh h r shₚ hₚ a s h1 h2 => gz_met hg hpl hIx d M av sh h r shₚ hₚ a s h1 h2) ⟨Nat.le_refl _, Nat.le_refl _⟩ n (0, gz_args 0 av, [], sh, h) u 0 0 a sl L ls s.heap [] hto ⟨by rw [Nat.zero_add]; exact Nat.le_refl _, by rw [Nat.zero_add]; exact Nat.le_refl _⟩ hL hl hw
    refine h9 (fun Lₚ ls1 H1 locs1 hp hL1 hl1 hw1 => ?_)
    rw [Nat.zero_add, Nat.zero_add]
    exact gz_fin_ok B.exec B.bytes B.notSynchronized B.returns hfin hp hL1 hw1)
  | d + 1, M, av, sh, h, r, shₚ, hₚ, a, sl, hc, Or.inr (Or.inr hE) => Or.inr (fun sz L hL => by
    obtain ⟨hpn, hlen, n, u, hto, hfin, rfl, rfl⟩ := hE
    refine Met.ofW (cc := M.2.1) (maxL := M.2.2.1) (ret := M.2.2.2) hpn rfl ?_
    intro p e s m args below meth c s₁ B hml hv
    obtain ⟨rfl, hsz, hG, hX, hP, hD0⟩ := hv
    have hts := atoms_spec (ws := gx_code M :: ws0) B.pre
    have hpp := fun (w : Cond) (h : w ∈ ws0) => hts w (List.mem_cons_of_mem _ h)
    have hown : s.vm.findClass M.1.cls = some m.cls := findClass_of_methodNamed B.named
    have hw := pw_start (cy := cy) hsz hP hD0
    have hl := lv_entry (av.map (gz_r sa L)) (n := M.2.2.1) (by rw [gz_sl_len]; exact hlen)
    rw [lg_entry_eq]
    generalize (lg_sl (av.map (gz_r sa L)) ++ List.replicate (M.2.2.1 - (lg_sl (av.map (gz_r sa L))).length) Slot.unset).toArray = ls at hl ⊢
    rw [gz_args_ok] at hl
    have h9 := gz_to_ok (l := l) (e := e) (below := below) (meth := meth) (R := (headSpec (gx_code M :: ws0) (gz_rm (d + 1) a sl)).room) (Q := MQ below (gz_Q D cy sa (pw_A L (gz_f cy sa L sh h) sz) L r u.2.2.2.1 u.2.2.2.2) (av.map (gz_r sa L)).toArray s a sl (pw_A L (gz_f cy sa L sh h) sz)) (d := d) (K := gz_Ev ws0 tb d) hg B.exec B.bytes hml hpp hown hG (gz_ok_f (hpl _ _ _ _ hc hpn)) (fun q => by cases q) hX (fun M av sh h r shₚ hₚ a s h1 h2 => gz_met hg hpl hIx d M av sh h r shₚ hₚ a s h1 h2) ⟨Nat.le_refl _, Nat.le_refl _⟩ n (0, gz_args 0 av, [], sh, h) u 0 0 a sl L ls s.heap [] hto ⟨by rw [Nat.zero_add]; exact Nat.le_refl _, by rw [Nat.zero_add]; exact Nat.le_refl _⟩ hL hl hw
    refine h9 (fun Lₚ ls1 H1 locs1 hp hL1 hl1 hw1 => ?_)
    rw [Nat.zero_add, Nat.zero_add]
    exact gz_fin_ok B.exec B.bytes B.notSynchronized B.returns hfin hp hL1 hw1)
