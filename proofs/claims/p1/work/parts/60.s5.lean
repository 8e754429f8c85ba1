theorem lc_pick {α : Type} {P : α → Nat → Prop} {key : α → Nat} (xs : List α) (hu : ∀ x ∈ xs, ∀ y ∈ xs, key x = key y → x = y) (h : ∀ x ∈ xs, ∃ q, P x q) : ∃ sa : Nat → Nat, ∀ x ∈ xs, P x (sa (key x)) := by
  have h0 : ∀ i : Nat, ∃ q : Nat, ∀ x ∈ xs, key x = i → P x q := fun i => by
    by_cases hi : ∃ x ∈ xs, key x = i
    · obtain ⟨x, hx, hxi⟩ := hi
      obtain ⟨q, hq⟩ := h x hx
      exact ⟨q, fun y hy hyi => by rw [hu y hy x hx (hyi.trans hxi.symm)]; exact hq⟩
    · exact ⟨0, fun x hx hxi => absurd ⟨x, hx, hxi⟩ hi⟩
  obtain ⟨sa, hsa⟩ := Classical.axiomOfChoice h0
  exact ⟨sa, fun x hx => hsa (key x) x hx rfl⟩
theorem lc_Xs {s : State} {args : Array Value} (hts : ∀ w ∈ lw_tbl, w.before args s = true) (hnw : narrow_1.before args s = true) : ∃ sa : Nat → Nat, px_X sa (fun q : Nat => s.heap.size ≤ q) s s.heap := by
  have hA : ∀ a : Nat, a < s.heap.size → ¬ (fun q : Nat => s.heap.size ≤ q) a := fun a h => Nat.not_le.mpr h
  obtain ⟨sa, hsa⟩ := lc_pick (P := fun (x : Nat × String) q => vk_R RX12 x.1 x.2 q s) (key := fun x => x.1) px_strs px8 (fun x hx => by
    obtain ⟨a, c, cA, kA, q1, -⟩ := Cond.exactly_spec (args := args) (first := s) (o := none) (s := s) (idx := []) (t := .string RX12 x.1) (cls := "java/lang/String") (px1 hnw x hx)
    exact ⟨a, vk_R.of (hts _ (px2 x hx)) q1⟩)
  exact ⟨sa, hsa, ⟨va_Nw.of rfl (hts _ pt34), va_Nw.of rfl (hts _ pt35), va_Nw.of rfl (hts _ pt36), va_Nw.of rfl (hts _ pt37), va_Nw.of rfl (hts _ pt38)⟩, vx_Zqof (hts _ pt27) (hts _ pt31) (pf0 hnw) hA, vx_Zqof (hts _ pt28) (hts _ pt31) (pf1 hnw) hA⟩
theorem lc_Zs {s : State} {args : Array Value} (hts : ∀ w ∈ lw_tbl, w.before args s = true) (hnw : narrow_1.before args s = true) : ∃ qa va : Nat → Nat, ps_X qa va (fun q : Nat => s.heap.size ≤ q) s s.heap := by
  have hA : ∀ a : Nat, a < s.heap.size → ¬ (fun q : Nat => s.heap.size ≤ q) a := fun a h => Nat.not_le.mpr h
  have hZ1 : va_Z "java/lang/String" "COMPACT_STRINGS" "Z" (.int 1) (fun q : Nat => s.heap.size ≤ q) s s.heap := va_Zof (hts _ pt29) (hts _ pt32) (va_eqi (pf2 hnw)) hA
  have hZ2 : va_Zq "jdk/internal/util/Preconditions" "SIOOBE_FORMATTER" "Ljava/util/function/BiFunction;" (fun q : Nat => s.heap.size ≤ q) s s.heap := va_Zqof (hts _ pt30) (hts _ pt33) (pf3 hnw) hA
  obtain ⟨qa, hqa⟩ := lc_pick (P := fun (x : Nat × String × Nat) q => vk_R RX13 x.1 x.2.1 q s ∧ ∃ v b, py_S q v x.2.2 b (fun q : Nat => s.heap.size ≤ q) s s.heap) (key := fun x => x.1) ps_strs ps8 (fun x hx => by
    obtain ⟨a, c, cA, kA, q1, q2, q3, q4, q5, q6, -⟩ := Cond.exactly_spec (args := args) (first := s) (o := none) (s := s) (idx := []) (t := .string RX13 x.1) (cls := "java/lang/String") (ps1 hnw x hx).1
    obtain ⟨t, ht, hT⟩ := va_Tof (f := fun j => .int ((ps_byt x.1).getD j 0)) (A := fun q : Nat => s.heap.size ≤ q) (ps7 x hx) (ps1 hnw x hx).2.2.1 (va_eqt (ps1 hnw x hx).2.2.2.1) (fun j hj => va_eqt ((ps1 hnw x hx).2.2.2.2 j hj)) hA
    exact ⟨a, vk_R.of (hts _ (ps6 x hx)) q1, t, fun j => (ps_byt x.1).getD j 0, ⟨cA, q3, q5, by rw [q6]; exact q2, hA a (Array.getElem?_eq_some_iff.mp q3).1⟩, vk_OFof q1 (va_eqt (ps1 hnw x hx).2.1) hA, vk_OFof q1 ht hA, hT, hZ1, hZ2⟩)
  obtain ⟨va, hva⟩ := lc_pick (P := fun (x : Nat × String × Nat) v => ∃ b, py_S (qa x.1) v x.2.2 b (fun q : Nat => s.heap.size ≤ q) s s.heap) (key := fun x => x.1) ps_strs ps8 (fun x hx => (hqa x hx).2)
  exact ⟨qa, va, fun x hx => ⟨(hqa x hx).1, hva x hx⟩⟩
theorem pq_C.grow {L : List Nat} {f : Nat → va_E} {cs : List (Nat × va_E)} {q : Nat} {e : va_E} (h : pq_C L f cs) (hq : q ∉ L) : pq_C (L ++ [q]) (va_up f q e) (cs ++ [(q, e)]) := by
  refine ⟨?_, fun x hx => ?_⟩
  · rw [List.map_append]
    refine List.nodup_append.mpr ⟨h.1, List.nodup_cons.mpr ⟨List.not_mem_nil, List.nodup_nil⟩, fun a h1 b h2 => ?_⟩
    obtain ⟨y, hy, rfl⟩ := List.mem_map.mp h1
    have h3 : b = q := List.mem_singleton.mp h2
    intro e9
    exact hq (by rw [← h3, ← e9]; exact (h.2 y hy).1)
  · rcases List.mem_append.mp hx with h1 | h1
    · refine ⟨List.mem_append_left _ (h.2 x h1).1, ?_⟩
      rw [va_up_ne _ _ (fun e9 => hq (by rw [← e9]; exact (h.2 x h1).1))]
      exact (h.2 x h1).2
    · rw [List.mem_singleton.mp h1]
      exact ⟨List.mem_append_right _ (List.mem_singleton.mpr rfl), va_up_self _ _ _⟩
theorem pq_C.of12 {h0 ci : Nat} {L0 L : List Nat} {f0 f : Nat → va_E} {fs : List Value} {news : List (Nat × va_E)} (h : pw_N h0 ci L0 f0 L f fs news) (hd : L.Nodup) : pq_C L f ((h0, .inr (ci, fs)) :: news) := by
  have h1 := h.1
  refine ⟨?_, fun x hx => ?_⟩
  · rw [List.map_cons]
    refine List.nodup_cons.mpr ⟨fun hm => ?_, ?_⟩
    · obtain ⟨y, hy, hyh⟩ := List.mem_map.mp hm
      exact (h.apart hd hy).1 (by rw [hyh]; exact h.2.2.2.2)
    · rw [h1] at hd
      exact (List.nodup_append.mp hd).2.1
  · rcases List.mem_cons.mp hx with rfl | hx
    · exact ⟨h.mem, h.2.1⟩
    · exact ⟨(h.apart hd hx).2, h.2.2.1 x hx⟩
theorem pq_C.ctor {m0 : Nat} {L2 L3 : List Nat} {f2 f3 : Nat → va_E} {F : List Value} {cs cm : List (Nat × va_E)} {e : va_E} (hC : pq_C L2 f2 (cs ++ [(m0, e)])) (hN : pn_N m0 L2 f2 L3 f3 F cm) (hd : L3.Nodup) : pq_C L3 f3 (cs ++ [(m0, .inr (13, F))] ++ cm) := by
  have hap := fun (x : Nat × va_E) (hx : x ∈ cm) => (hN.apart hd hx)
  obtain ⟨⟨M, hL, hM⟩, hnd, hf, hc, hF, h0m⟩ := hN
  have hn1 : ((cs ++ [(m0, e)]).map Prod.fst).Nodup := hC.1
  have e1 : (cs ++ [(m0, .inr (13, F))] : List (Nat × va_E)).map Prod.fst = (cs ++ [(m0, e)]).map Prod.fst := by simp
  have hin : ∀ a ∈ (cs ++ [(m0, e)]).map Prod.fst, a ∈ L2 := fun a ha => by
    obtain ⟨y, hy, rfl⟩ := List.mem_map.mp ha
    exact (hC.2 y hy).1
  refine ⟨?_, fun x hx => ?_⟩
  · rw [List.map_append, e1]
    refine List.nodup_append.mpr ⟨hn1, hnd, fun a h1 b h2 e9 => ?_⟩
    obtain ⟨y, hy, rfl⟩ := List.mem_map.mp h2
    exact (hap y hy).1 (by rw [← e9]; exact hin a h1)
  · rcases List.mem_append.mp hx with hx | hx
    · rcases List.mem_append.mp hx with hx | hx
      · have h2 := hC.2 x (List.mem_append_left _ hx)
        have hne : x.1 ≠ m0 := fun e9 => by
          have hn2 := hn1
          rw [List.map_append] at hn2
          exact (List.nodup_append.mp hn2).2.2 x.1 (List.mem_map.mpr ⟨x, hx, rfl⟩) m0 (by simp) e9
        refine ⟨by rw [hL]; exact List.mem_append_left _ h2.1, ?_⟩
        rw [hF x.1 h2.1 hne]; exact h2.2
      · rw [List.mem_singleton.mp hx]
        exact ⟨by rw [hL]; exact List.mem_append_left _ h0m, hf⟩
    · exact ⟨(hap x hx).2, hc x hx⟩
theorem ps_pre {D : va_G} {cy : Nat → ClassId} {qa va : Nat → Nat} {s : State} {A : Nat → Prop} {L : List Nat} {f : Nat → va_E} {H : Heap} {locs : List Loc} {av : List Value} (hG : pw_G D cy s) (hZ : ps_X qa va A s s.heap) (hw : pw_W D A s.heap L f H locs) : PreS s H (ps_Pc D cy qa va av H.size L f) av :=
  ⟨ps_blind, fun U hU hW => ⟨rfl, by rw [hU], hG.warm hW, hZ.to hW (fun a h1 h2 => by rw [hU]; exact hw.2.2.1.2.1 a h1 h2) (pq_sub hw), by rw [hU]; exact hw.1, hw.2.1.weaken (fun _ _ _ _ => trivial)⟩⟩
