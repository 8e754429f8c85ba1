theorem gs_PDa_SS {β : Int → Int} {N p q : Int} {I Iₚ : gr_I} {J Jₚ : gr_J} (h : gs_PDa I) (s : gs_SS β N p I J Iₚ Jₚ q) : gs_PDa Iₚ := by
  obtain ⟨I1, J1, ts, _, _, _, u, l1, l2⟩ := s
  exact gs_PDa_STU (gs_PDa_ts h ts l1.1 l1.2) u l2.1 l2.2
theorem gs_PDa_MR {β : Int → Int} {N : Int} : ∀ {n : Nat} {p q : Int} {I Iₚ : gr_I} {J Jₚ : gr_J}, gs_PDa I → gs_MR β N n p I J q Iₚ Jₚ → gs_PDa Iₚ
  | 0, _, _, _, _, _, _, h, s => gs_PDa_ts h s.2.1 s.2.2.1 s.2.2.2
  | _ + 1, _, _, _, _, _, _, h, s => by
    obtain ⟨q1, I1, J1, m, _, s1⟩ := s
    exact gs_PDa_SS (gs_PDa_MR h m) s1
theorem gs_PDa_M0 {β : Int → Int} {N n p : Int} {I Iₚ : gr_I} {J Jₚ : gr_J} (h : gs_PDa I) (m : gs_M0 β N n I J p Iₚ Jₚ) : gs_PDa Iₚ := by
  obtain ⟨I0, J0, ts, l, _, m⟩ := m
  exact gs_PDa_MR (gs_PDa_m h ts rfl l.1 l.2) m
