/-! ROWS OF THE LAW'S WORLD: the array of answers stands first. -/
section LC
variable {p : Program} {l : Launch} {e : Env} {R : Room} {s : State} {m : MethodId} {args : Array Value} {below : List Frame} {meth : Method} {c : Code} {H H0 : Heap} {locs : List Loc} {cells slots : Nat} {Q : State → Prop}
variable {cc : ByteArray} {pc a1 s1 : Nat} {ls : Array Slot} {rest : List Value} {D : va_G} {cy : Nat → ClassId} {sa : Nat → Nat} {A : Nat → Prop} {L : List Nat} {sh shₚ : gz_Sh} {h hₚ : gz_H} {w1 wr : va_W} {ou : Nat} {g : Nat → Int64}
/-- the array of answers -/
def gp_ou (cy : Nat → ClassId) (ou : Nat) (g : Nat → Int64) : Nat × va_E := (ou, .inl (cy 2, 1, .inr (.inl g)))
theorem gp_last (hexec : p.tables.exec = Jvm.exec) (hb : c.code = cc) (hG : pw_G D cy s) (hw : gp_W D A s.heap (gp_ou cy ou g :: wr) H locs) {x : Int64} (hdg : decode cc pc = .ok (.lastore, 1))
    (kk : ∀ (H1 : Heap) (locs1 : List Loc), gp_W D A s.heap (gp_ou cy ou (vp_updL g 0 x) :: wr) H1 locs1 → W p l e R s m args below meth c H1 locs1 cells slots Q (F0 m (pc + 1) ls rest)) : W p l e R s m args below meth c H locs cells slots Q (F0 m pc ls (.long x :: .int 0 :: .ref ou :: rest)) :=
  va_last hexec hb hG.1 hw.1 hw.2.1 hw.2.2.1 0 2 (n := 1) (f := g) rfl rfl (vp_in_iff.mpr ⟨by decide, by decide⟩) hdg (fun H1 locs1 hP hD hS => kk H1 locs1 ⟨hP, hD, hS, hw.2.2.2⟩)
theorem gp_lald (hexec : p.tables.exec = Jvm.exec) (hb : c.code = cc) (hG : pw_G D cy s) (hw : gp_W D A H0 (gp_ou cy ou g :: wr) H locs) (hdg : decode cc pc = .ok (.laload, 1))
    (kk : W p l e R s m args below meth c H locs cells slots Q (F0 m (pc + 1) ls (.long (g 0) :: rest))) : W p l e R s m args below meth c H locs cells slots Q (F0 m pc ls (.int 0 :: .ref ou :: rest)) :=
  va_lald hexec hb hG.1 hw.1 0 2 (n := 1) (f := g) rfl rfl (vp_in_iff.mpr ⟨by decide, by decide⟩) hdg kk
/-- behind a call of a method of the first pool that throws -/
theorem gp_xbehind {st0 : List Value} {E : String} (hw : gp_W D A s.heap (va_pl L (gz_f cy sa L sh h) ++ wr) H locs)
    (hr : vx_Run p l e R s m args below meth c H locs cells slots a1 s1 (F0 m pc ls st0) rest (fun _ _ _ => False) (gt_Q D cy sa (pw_A L (gz_f cy sa L sh h) H.size) L E shₚ hₚ) (pw_A L (gz_f cy sa L sh h) H.size))
    (kx : ∀ (Lₚ : List Nat) (ce : Cell) (q9 : Nat) (H1 : Heap) (locs1 : List Loc), L <+: Lₚ → Lₚ.length = shₚ.length → gp_W D A s.heap (va_pl Lₚ (gz_f cy sa Lₚ shₚ hₚ) ++ wr) H1 locs1 → H1[q9]? = some ce → ce.vm = .none → s.vm.findClass E = some ce.cls → vx_W p l e R s m args below meth c H1 locs1 (cells + a1) (slots + s1) Q (F0 m pc ls rest) q9) : W p l e R s m args below meth c H locs cells slots Q (F0 m pc ls st0) := by
  intro T hT X
  rcases hr T hT X with ⟨v, st₀, t, T', L1, h9, X', hL, e1, e2, hf, st⟩ | ⟨q, st₀, t, T', L1, E9, ce, h9, X', hL, e1, e2, ⟨⟨hE, Lₚ, hp1, hlen, hP1, hD1⟩, hF9⟩, hce, hcv, hcl, st⟩
  · exact hf.elim
  · obtain ⟨k1, k2, k3⟩ := vx_keep h9 e1 hw.2.2.1 (fun q _ h => gp_sub hw q h) (gp_sub hw) hL hF9
    rw [← e1] at hP1
    subst hE
    obtain ⟨t2, b1, b2⟩ := kx Lₚ ce q T'.heap (locs ++ L1) hp1 hlen (hw.back (w2 := va_pl Lₚ (gz_f cy sa Lₚ shₚ hₚ)) hP1 hD1 k2 k3) (by rw [e1]; exact hce) hcv hcl T' rfl X'
    exact ⟨t2, st.trans b1, b2⟩
/-- what a wrapper asks, and what it leaves: k, and the class's pool with the array of answers -/
def gl_Pc (D : va_G) (cy : Nat → ClassId) (sa : Nat → Nat) (sv : Nat) (av : List Value) (sz : Nat) (ws : va_W) : Array Value → State → Prop :=
  va_Pc av (fun U => U.heap.size = sz ∧ pw_G D cy U ∧ gz_X sa sv (va_A ws sz) U U.heap ∧ va_P D vwCl ws U.heap ∧ va_D (fun _ => True) ws)
def gl_S (D : va_G) (cy : Nat → ClassId) (sa : Nat → Nat) (A : Nat → Prop) (ou : Nat) (L : List Nat) (sh : gz_Sh) (h : gz_H) (P : (Nat → Int64) → Prop) (t : State) : Prop := ∃ (Lₚ : List Nat) (gₚ : Nat → Int64), L <+: Lₚ ∧ Lₚ.length = sh.length ∧ P gₚ ∧ va_P D vwCl (gp_ou cy ou gₚ :: va_pl Lₚ (gz_f cy sa Lₚ sh h)) t.heap ∧ va_D A (gp_ou cy ou gₚ :: va_pl Lₚ (gz_f cy sa Lₚ sh h))
def gl_Q (D : va_G) (cy : Nat → ClassId) (sa : Nat → Nat) (A : Nat → Prop) (ou : Nat) (L : List Nat) (k : Int32) (sh : gz_Sh) (h : gz_H) (P : (Nat → Int64) → Prop) : Array Value → State → Outcome → State → Prop := fun _ st oc t => (oc = .returned (some (.int k)) ∧ gl_S D cy sa A ou L sh h P t) ∧ va_F A st t
def gl_No : String → State → State → Prop := fun _ _ _ => False
theorem gl_blind {sv : Nat} {av : List Value} {sz : Nat} {ws : va_W} : FrameBlind (gl_Pc D cy sa sv av sz ws) := by
  intro a U g mk q
  obtain ⟨q0, q1, qG, qX, qP, qD⟩ := q
  exact ⟨q0, q1, pw_G.same (s := U) (U := U.calling g mk a) rfl qG, gz_X.same (s := U) (U := U.calling g mk a) rfl qX, qP, qD⟩
/-- the end of a wrapper -/
theorem gl_iret {P : (Nat → Int64) → Prop} {L0 : List Nat} {ws0 : va_W} {sz mc ms : Nat} {k : Int32} (hexec : p.tables.exec = Jvm.exec) (hb : c.code = cc) (hr : meth.sig.returnType = some .int) (hlocks : meth.locks = false) (hw : gp_W D (va_A ws0 sz) s.heap (gp_ou cy ou g :: va_pl L (gz_f cy sa L sh h)) H locs) (hp : L0 <+: L) (hL : L.length = sh.length) (hg : P g) (hc : cells ≤ mc) (hs : slots ≤ ms) (hdg : decode cc pc = .ok (.ireturn, 1)) :
    W p l e R s m args below meth c H locs cells slots (vx_MQ below (gl_Q D cy sa (va_A ws0 sz) ou L0 k sh h P) gl_No args s mc ms (va_A ws0 sz)) (F0 m pc ls [.int k]) :=
  vx_ret (W.widen hc hs (W.zret hexec hb hr rfl (fun t ht _ => ⟨⟨rfl, L, g, hp, hL, hg, by rw [ht]; exact hw.1, hw.2.1⟩, hw.2.2.1.F ht⟩) hw.2.2.1.2.2 hdg))
/-- the start of a wrapper -/
theorem gl_start {sv sz : Nat} {ws : va_W} (hsz : s.heap.size = sz) (hP : va_P D vwCl ws s.heap) (hD : va_D (fun _ => True) ws) : gp_W D (va_A ws sz) s.heap ws s.heap [] := by
  subst hsz
  exact ⟨hP, ⟨hD.1, fun k q hk => va_A.in hk⟩, ⟨Nat.le_refl _, fun _ _ _ => rfl, fun _ h => absurd h List.not_mem_nil⟩, fun q hq => Or.inr hq⟩
/-- what a wrapper asks of the law's world -/
theorem gl_pre {sv : Nat} {av : List Value} (hG : pw_G D cy s) (hX : gz_X sa sv A s s.heap) (hw : gp_W D A s.heap (w1 ++ wr) H locs) : ∀ U : State, U.heap = H → s.WarmedH U.vm → gl_Pc D cy sa sv av H.size w1 av.toArray U := fun U hU hW => by
  refine ⟨rfl, by rw [hU], hG.warm hW, ?_, by rw [hU]; exact hw.left.1, hw.left.2.1.weaken (fun _ _ _ _ => trivial)⟩
  exact hX.to hW (fun q h1 h2 => by rw [hU]; exact hw.2.2.1.2.1 q h1 h2) (gp_sub hw)
/-- behind the call of a wrapper: nothing else of the law's world has changed -/
theorem gl_behind {st0 : List Value} {a : Array Value} {k : Int32} {P : (Nat → Int64) → Prop} (hw : gp_W D A s.heap (w1 ++ wr) H locs)
    (hr : vx_Run p l e R s m args below meth c H locs cells slots a1 s1 (F0 m pc ls st0) rest (gl_Q D cy sa (va_A w1 H.size) ou L k shₚ hₚ P a) gl_No (va_A w1 H.size))
    (kk : ∀ (Lₚ : List Nat) (gₚ : Nat → Int64) (H1 : Heap) (locs1 : List Loc), L <+: Lₚ → Lₚ.length = shₚ.length → P gₚ → gp_W D A s.heap ((gp_ou cy ou gₚ :: va_pl Lₚ (gz_f cy sa Lₚ shₚ hₚ)) ++ wr) H1 locs1 → W p l e R s m args below meth c H1 locs1 (cells + a1) (slots + s1) Q (F0 m (pc + 3) ls (.int k :: rest))) : W p l e R s m args below meth c H locs cells slots Q (F0 m pc ls st0) := by
  intro T hT X
  rcases hr T hT X with ⟨v, st₀, t, T', L1, h9, X', hL, e1, e2, ⟨⟨hv, Lₚ, gₚ, hp1, hlen, hg, hP1, hD1⟩, hF9⟩, st⟩ | ⟨q, st₀, t, T', L1, E9, ce, h9, X', hL, e1, e2, hE, hce, hcv, hcl, st⟩
  · obtain ⟨k1, k2, k3⟩ := vx_keep h9 e1 hw.2.2.1 (fun q _ h => gp_sub hw q h) (gp_sub hw) hL hF9
    cases hv
    rw [← e1] at hP1
    obtain ⟨t2, b1, b2⟩ := kk Lₚ gₚ T'.heap (locs ++ L1) hp1 hlen hg (hw.back hP1 hD1 k2 k3) T' rfl X'
    exact ⟨t2, st t2 b1, b2⟩
  · exact hE.elim
end LC
