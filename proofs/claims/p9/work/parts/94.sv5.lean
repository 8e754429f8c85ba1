theorem gs_PDa_ts {I Iₚ : gr_I} {J Jₚ : gr_J} (h : gs_PDa I) (ts : gs_TsX [] I J Iₚ Jₚ) (l : gr_LKs I Iₚ) (l2 : gr_PTs I Iₚ) : gs_PDa Iₚ := gs_PDa_kp h l l2 (ts.2.1 17 rfl rfl) (ts.2.1 31 rfl rfl) (ts.2.1 33 rfl rfl) (ts.2.1 34 rfl rfl)
theorem gs_PDa_m {m : List Nat} {I Iₚ : gr_I} {J Jₚ : gr_J} (h : gs_PDa I) (ts : gs_TsX m I J Iₚ Jₚ) (hm : ([17, 31, 33, 34].all (fun a => !(m.elem a))) = true) (l : gr_LKs I Iₚ) (l2 : gr_PTs I Iₚ) : gs_PDa Iₚ := by
  simp only [List.all_cons, List.all_nil, Bool.and_true, Bool.and_eq_true, Bool.not_eq_true'] at hm
  exact gs_PDa_kp h l l2 (ts.2.1 17 rfl hm.1) (ts.2.1 31 rfl hm.2.1) (ts.2.1 33 rfl hm.2.2.1) (ts.2.1 34 rfl hm.2.2.2)
/-- a PATTERN more -/
theorem gs_PDa_86 {β : Int → Int} {N q : Int} {w : Int64} {V : List Int} {I Iₚ : gr_I} {J Jₚ : gr_J} (h : gs_PDa I) (u : gs_Upat w V I J Iₚ Jₚ) (c : gs_Uct β N I J q Iₚ) (l : gr_LKs I Iₚ) (l2 : gr_PTs I Iₚ) : gs_PDa Iₚ := by
  obtain ⟨u1, u2, _, _, _, u6, _, _⟩ := u
  obtain ⟨_, c2, c3, ⟨c4, c5⟩, c6⟩ := c
  have eP : ((gs_Pn I : Nat) : Int) = 24 * I 0 6 + I 17 (Int.toNat (I 0 6)) := by
    unfold gs_Pn
    omega
  refine ⟨fun i i0 i1 => ?_, fun i f i0 i1 f0 f1 => ?_⟩
  · by_cases e : i = I 0 6
    · rw [e, u1]
      omega
    · rw [u2 _ (by omega)]
      exact h.1 i i0 i1
  · by_cases e : 24 * i + f = 24 * I 0 6 + I 17 (Int.toNat (I 0 6))
    · rw [e]
      exact ⟨c6, c2⟩
    · have f2 : f < I 17 (Int.toNat i) := by
        by_cases d : i = I 0 6
        · rw [d, u1] at f1
          rw [d]
          rw [d] at e
          omega
        · rw [u2 _ (by omega)] at f1
          exact f1
      obtain ⟨a, b⟩ := h.2 i f i0 i1 f0 f2
      rw [u6 _ (by omega)]
      refine ⟨a, fun j j0 j1 => ?_⟩
      have o := c3 (Int.toNat (24 * (24 * i + f) + j)) (by omega)
      rw [o.1, o.2]
      exact fo_okr_kp (b j j0 j1) l.2 l2.2 l.1 l2.1
theorem gs_PDa_STU {β : Int → Int} {N p : Int} {I Iₚ : gr_I} {J Jₚ : gr_J} (h : gs_PDa I) (u : gs_STU β N p I J Iₚ Jₚ) (l : gr_LKs I Iₚ) (l2 : gr_PTs I Iₚ) : gs_PDa Iₚ := by
  obtain ⟨k, _, uk⟩ := u
  unfold gs_UK at uk
  split at uk
  · exact gs_PDa_m h uk.2 rfl l l2
  · exact gs_PDa_m h uk.2 rfl l l2
  · exact gs_PDa_m h uk.2 rfl l l2
  · exact gs_PDa_m h uk.2 rfl l l2
  · exact gs_PDa_m h uk.2 rfl l l2
  · exact gs_PDa_m h uk.2 rfl l l2
  · exact gs_PDa_86 h uk.1.1 uk.1.2 l l2
  · exact gs_PDa_m h uk.2 rfl l l2
  · exact gs_PDa_m h uk.2 rfl l l2
  · exact gs_PDa_m h uk.2 rfl l l2
  · exact gs_PDa_m h uk.2 rfl l l2
  · exact gs_PDa_m h uk.2 rfl l l2
  · exact absurd uk (fun h => h)
