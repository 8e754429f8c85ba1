/-! R THROUGH THE OTHER CALLS, and all that the two sides keep together over a script. -/
theorem gs_R_q {I : gr_I} {J : gr_J} {A : gc_A} {Ir Ir' : gr_I} {Jr Jr' : gr_J} (h : gs_R I J A Ir Jr) (t : gq_T Ir Jr Ir' Jr') : gs_R I J A Ir' Jr' := by
  obtain ⟨n2, n4, n6, n8, gf, gk, hc, hT, h0⟩ := h
  have ri : ∀ a k : Nat, a + 1 ≤ 50 → Ir' (a + 1) k = Ir (a + 1) k := fun a k ha => (t (a + 1) k (decide_eq_true ha)).1
  have rj : ∀ a k : Nat, a + 1 ≤ 50 → Jr' (a + 1) k = Jr (a + 1) k := fun a k ha => (t (a + 1) k (decide_eq_true ha)).2
  have ra : gs_rA Ir Jr Ir' Jr' := ⟨fun k => ⟨ri 12 k (by decide), ri 13 k (by decide), ri 14 k (by decide), ri 15 k (by decide), ri 16 k (by decide), ri 17 k (by decide), ri 18 k (by decide)⟩, fun k => ⟨ri 23 k (by decide), ri 24 k (by decide), ri 30 k (by decide), ri 31 k (by decide), ri 40 k (by decide)⟩, fun k => ⟨rj 19 k (by decide), rj 20 k (by decide), rj 21 k (by decide), rj 22 k (by decide)⟩⟩
  exact ⟨gs_GN_fr n2 rfl (fun _ => rfl) (t 0 2 rfl).1 (fun k => rj 1 k (by decide)), gs_GN_fr n4 rfl (fun _ => rfl) (t 0 3 rfl).1 (fun k => rj 2 k (by decide)), gs_GN_fr n6 rfl (fun _ => rfl) (t 0 4 rfl).1 (fun k => rj 3 k (by decide)), gs_GN_fr n8 rfl (fun _ => rfl) (t 0 1 rfl).1 (fun k => rj 0 k (by decide)), gs_GF_fr gf rfl (fun _ => rfl) (fun _ => rfl) (t 0 5 rfl).1 (fun k => ⟨rj 4 k (by decide), ri 10 k (by decide), ri 11 k (by decide)⟩), gs_GK_fr gk rfl (fun _ => rfl) (fun _ => rfl) (fun _ => rfl) (fun _ => rfl) (fun k => ⟨ri 5 k (by decide), ri 6 k (by decide), ri 7 k (by decide), ri 9 k (by decide)⟩), hc.trans (t 0 6 rfl).1.symm, fun i t hi hA => gs_RT_fr (hT i t hi hA) ⟨⟨rfl, fun _ => rfl⟩, ⟨rfl, fun _ => rfl, fun _ => rfl, fun _ => rfl⟩, ⟨rfl, fun _ => rfl⟩, rfl, ⟨rfl, fun _ => rfl, fun _ => rfl, fun _ => rfl⟩, rfl, rfl, fun k q _ hA => ⟨hA, rfl⟩⟩ ra, gs_G0_fr h0 (by rw [(t 0 1 rfl).1]; exact Int.le_refl _) (fun i _ _ => ra.1 i)⟩
theorem gs_R_K {sh : gz_Sh} {ro : Nat → Nat} {I I' : gr_I} {J J' : gr_J} {A : gc_A} {Ir : gr_I} {Jr : gr_J} (hs : gh_HS sh ro I J A) (h : gs_R I J A Ir Jr) (k : gh_SE sh ro A I I' J J') : gs_R I' J' A Ir Jr := by
  obtain ⟨f, ft, fl, fj⟩ := k
  have i8 : 0 ≤ I 8 1 ∧ I 8 1 ≤ 8 := gc_in hs.2.1 (gc_bR hs.1 (by decide) rfl) rfl rfl
  refine gs_R_same h ⟨⟨f 2 1 (by decide) (by decide), f 4 1 (by decide) (by decide), f 6 1 (by decide) (by decide), f 8 1 (by decide) (by decide)⟩, fun k => ⟨fj 3 k (Or.inl (by decide)), fj 5 k (Or.inl (by decide)), fj 7 k (Or.inl (by decide)), fj 9 k (Or.inl (by decide)), fj 18 k (Or.inl (by decide))⟩, ⟨f 1 13 (by decide) (by decide), f 1 5 (by decide) (by decide)⟩, fun k => ⟨f 11 k (by decide) (by decide), f 12 k (by decide) (by decide), f 13 k (by decide) (by decide), f 15 k (by decide) (by decide), f 19 k (by decide) (by decide)⟩⟩ (fun i t hi ht => ⟨ht, ?_⟩)
  have t4 := (gs_hT9 hs hi ht).2
  have g : ∀ d j : Nat, d < 17 → I' (t + d) j = I (t + d) j := fun d j hd => ft i t d j (by omega) ht hd
  have gj : ∀ d j : Nat, J' (t + d) j = J (t + d) j := fun d j => fj (t + d) j (Or.inr (by omega))
  refine ⟨⟨g 1 1 (by decide), fun k => gj 2 k⟩, ⟨g 3 1 (by decide), fun k => gj 4 k, fun k => g 5 k (by decide), fun k => g 6 k (by decide)⟩, ⟨g 7 1 (by decide), fun k => gj 8 k⟩, g 0 6 (by decide), ⟨g 11 1 (by decide), fun k => gj 12 k, fun k => g 13 k (by decide), fun k => g 14 k (by decide)⟩, g 0 11 (by decide), g 0 13 (by decide), fun k q hk hA => ⟨hA, ?_⟩⟩
  have l := gs_hL9 hs hi ht k q hk hA
  exact fl q l.2 l.1 0 1 (by decide)
theorem gs_R_AD {sh sh' : gz_Sh} {ro ro' : Nat → Nat} {I I' : gr_I} {J J' : gr_J} {A A' : gc_A} {Ir : gr_I} {Jr : gr_J} {a s : Nat} (hs : gh_HS sh ro I J A) (h : gs_R I J A Ir Jr) (k : gh_AD sh ro I A a s sh' ro' I' J' A') (kj : ∀ q j : Nat, J' q j = J q j) : gs_R I' J' A' Ir Jr := by
  obtain ⟨_, _, _, _, _, _, f9, fa⟩ := k
  have h144 := gc_Base_len hs.1
  have i8 : 0 ≤ I 8 1 ∧ I 8 1 ≤ 8 := gc_in hs.2.1 (gc_bR hs.1 (by decide) rfl) rfl rfl
  have f : ∀ q j : Nat, 1 ≤ q → q ≤ 21 → I' q j = I q j := fun q j h1 h2 => (f9 q j (by omega)).resolve_left (by omega)
  refine gs_R_same h ⟨⟨f 2 1 (by decide) (by decide), f 4 1 (by decide) (by decide), f 6 1 (by decide) (by decide), f 8 1 (by decide) (by decide)⟩, fun k => ⟨kj 3 k, kj 5 k, kj 7 k, kj 9 k, kj 18 k⟩, ⟨f 1 13 (by decide) (by decide), f 1 5 (by decide) (by decide)⟩, fun k => ⟨f 11 k (by decide) (by decide), f 12 k (by decide) (by decide), f 13 k (by decide) (by decide), f 15 k (by decide) (by decide), f 19 k (by decide) (by decide)⟩⟩ (fun i t hi ht' => ?_)
  have ht : A 10 i = some t := (fa 10 i (by decide)).symm.trans ht'
  have rg := gh_rng hs.2.2.2.1 (i := i) (by omega) ht
  have g : ∀ d j : Nat, d < 17 → I' (t + d) j = I (t + d) j := fun d j hd => (f9 (t + d) j (by omega)).resolve_left (by omega)
  refine ⟨ht, ⟨g 1 1 (by decide), fun k => kj _ k⟩, ⟨g 3 1 (by decide), fun k => kj _ k, fun k => g 5 k (by decide), fun k => g 6 k (by decide)⟩, ⟨g 7 1 (by decide), fun k => kj _ k⟩, g 0 6 (by decide), ⟨g 11 1 (by decide), fun k => kj _ k, fun k => g 13 k (by decide), fun k => g 14 k (by decide)⟩, g 0 11 (by decide), g 0 13 (by decide), fun k q hk hA' => ?_⟩
  have hA : A (t + 16) k = some q := (fa (t + 16) k (by omega)).symm.trans hA'
  have l := gs_hL9 hs hi ht k q hk hA
  have lq := gc_x_lt (gc_linS8 l.2)
  exact ⟨hA, (f9 q 1 (by omega)).resolve_left (by omega)⟩
/-- module() of the class beside the reference's -/
theorem gk_module_p {ws0 : List Cond} {tb : String → gz_T} (hw : gc_Wn ws0) (hws : gc_Ws ws0) (htb : gc_tbs tb) {sh : gz_Sh} {ro : Nat → Nat} {I : gr_I} {J : gr_J} {A : gc_A} (hs : gh_HS sh ro I J A) (hc : gh_HC sh ro A I) (x0 : I 1 17 + I 23 1 ≤ 1280) (β : Int → Int) (r : Int) (Ir0 IrE : gr_I) (Jr0 JrE : gr_J) (yt : gs_TX β (I 23 1) (I 24)) (yR0 : gs_R I J A Ir0 Jr0) (yM : gs_MD β (I 23 1) r Ir0 Jr0 IrE JrE) (hlen : sh.length + 25 * gh_nl A + 9 * (Int.toNat (I 23 1) + 1) ≤ 999000) : ∃ (z : Int) (a s : Nat) (sh' : gz_Sh) (ro' : Nat → Nat) (I' : gr_I) (J' : gr_J) (A' : gc_A), gz_Ev ws0 tb 100 (yX12_module, cX12_module, 2, (some .int)) [.inr (.inr (some 0))] sh (gc_h sh I J A) (some (.inl z)) sh' (gc_h sh' I' J' A') a s ∧ gh_HC sh' ro' A' I' ∧ gh_MO (I 1 17 + I 23 1) sh ro I A z sh' ro' I' J' A' ∧ (z = r ∧ gs_R I' J' A' IrE JrE) ∧ (a + 25 * gh_nl A' ≤ 25 * gh_nl A + 9 * (Int.toNat (I 23 1) + 1) ∧ s + 45714 * gh_nl A' ≤ 45714 * gh_nl A + 82 * (Int.toNat (I 23 1) + 1) ∧ sh'.length + 25 * gh_nl A' ≤ sh.length + 25 * gh_nl A + 9 * (Int.toNat (I 23 1) + 1)) := by
  obtain ⟨z, a, s, sh', ro', I', J', A', h1, ⟨h2, h4, h5⟩, h3⟩ := e_X12_module_p hw hws htb sh ro I J A hs (I 1 17 + I 23 1) ⟨x0, Int.le_refl _⟩ β (I 23 1) r Ir0 IrE Jr0 JrE yt rfl yR0 yM hlen
  exact ⟨z, a, s, sh', ro', I', J', A', gz_Ev_mono (d := 93) (by decide) h1, gh_HC_m hs h2.1 h2.2.1 hc, h2, ⟨h4, h5⟩, h3⟩
/-- both sides after n calls -/
def gp_P (n a s : Nat) (sh : gz_Sh) (ro : Nat → Nat) (I : gr_I) (J : gr_J) (A : gc_A) (Ir : gr_I) (Jr : gr_J) : Prop := gk_St n a s sh ro I J A ∧ (gq_St n Ir ∧ gr_KW Jr) ∧ gs_R I J A Ir Jr ∧ I 23 1 = Ir 0 68 ∧ ∀ k : Nat, (k : Int) < I 23 1 → I 24 k = Ir 56 k
section UC
variable {n a s : Nat} {sh : gz_Sh} {ro : Nat → Nat} {I I' : gr_I} {J J' : gr_J} {A : gc_A} {Ir Ir' : gr_I} {Jr Jr' : gr_J} {tp : Int}
theorem gp_kp (h : gp_P n a s sh ro I J A Ir Jr) (k : gh_K sh ro A I J I' J' tp) (ht : tp ≤ I 23 1) (q : gq_St (n + 1) Ir') (t : gq_T Ir Jr Ir' Jr' ∧ ∀ k, Ir' 56 k = Ir 56 k) (e : Ir' 0 68 = tp) : gp_P (n + 1) a s sh ro I' J' A Ir' Jr' := by
  obtain ⟨h1, ⟨h2, h3⟩, h4, h5, h6⟩ := h
  refine ⟨gk_kp h1 k (by omega), ⟨q, gq_T_kw t.1 h3⟩, gs_R_q (gs_R_K h1.1 h4 k.2.2.1) t.1, k.2.2.2.1.trans e.symm, fun j hj => ?_⟩
  rw [k.2.2.2.1] at hj
  rw [k.2.2.2.2.1 j (by omega), t.2 j]
  exact h6 j (by omega)
theorem gp_th (h : gp_P n a s sh ro I J A Ir Jr) (q : gq_St (n + 1) Ir') (t : gq_T Ir Jr Ir' Jr' ∧ ∀ k, Ir' 56 k = Ir 56 k) (e : Ir' 0 68 = Ir 0 68) : gp_P (n + 1) (a + 1) (s + 6) sh ro I J A Ir' Jr' := by
  obtain ⟨h1, ⟨h2, h3⟩, h4, h5, h6⟩ := h
  exact ⟨gk_th h1, ⟨q, gq_T_kw t.1 h3⟩, gs_R_q h4 t.1, h5.trans e.symm, fun j hj => (h6 j hj).trans (t.2 j).symm⟩
theorem gp_fd {a1 a2 a3 a4 a5 : Int} (h : gp_P n a s sh ro I J A Ir Jr) (k : gh_K sh ro A I J I' J' (I 23 1 + 20)) (f : gs_F5 a1 a2 a3 a4 a5 (Int.toNat (I 23 1)) (I 24) (I' 24)) (q : gq_St (n + 1) Ir') (t : gq_T Ir Jr Ir' Jr') (e : Ir' 0 68 = Ir 0 68 + 20) (g : gs_F5 a1 a2 a3 a4 a5 (Int.toNat (Ir 0 68)) (Ir 56) (Ir' 56)) : gp_P (n + 1) a s sh ro I' J' A Ir' Jr' := by
  obtain ⟨h1, ⟨h2, h3⟩, h4, h5, h6⟩ := h
  have i1 := gk_tp h1.1
  refine ⟨gk_kp h1 k (Int.le_refl _), ⟨q, gq_T_kw t h3⟩, gs_R_q (gs_R_K h1.1 h4 k.2.2.1) t, by rw [k.2.2.2.1, e, h5], fun j hj => ?_⟩
  rw [k.2.2.2.1] at hj
  rw [← h5] at g
  exact gs_F5_eq f g (fun j hj => h6 j (by omega)) j (by omega)
theorem gp_ad {a1 s1 : Nat} {sh' : gz_Sh} {ro' : Nat → Nat} {A' : gc_A} (h : gp_P n a s sh ro I J A Ir Jr) (k : gh_AD sh ro I A a1 s1 sh' ro' I' J' A') (kj : ∀ q j : Nat, J' q j = J q j) (q : gq_St (n + 1) Ir') (t : gq_T Ir Jr Ir' Jr') (e : Ir' 0 68 = 0) : gp_P (n + 1) (a + a1) (s + s1) sh' ro' I' J' A' Ir' Jr' := by
  obtain ⟨h1, ⟨h2, h3⟩, h4, h5, h6⟩ := h
  have e0 : I' 23 1 = 0 := k.2.2.2.1
  exact ⟨gk_ad h1 k, ⟨q, gq_T_kw t h3⟩, gs_R_q (gs_R_AD h1.1 h4 k kj) t, e0.trans e.symm, fun j hj => absurd hj (by omega)⟩
theorem gp_mo {a1 s1 : Nat} {z : Int} {sh' : gz_Sh} {ro' : Nat → Nat} {A' : gc_A} (h : gp_P n a s sh ro I J A Ir Jr) (hc' : gh_HC sh' ro' A' I') (k : gh_MO (I 1 17 + I 23 1) sh ro I A z sh' ro' I' J' A') (hk : a1 + 25 * gh_nl A' ≤ 25 * gh_nl A + 9 * (Int.toNat (I 23 1) + 1) ∧ s1 + 45714 * gh_nl A' ≤ 45714 * gh_nl A + 82 * (Int.toNat (I 23 1) + 1) ∧ sh'.length + 25 * gh_nl A' ≤ sh.length + 25 * gh_nl A + 9 * (Int.toNat (I 23 1) + 1)) (r : gs_R I' J' A' Ir' Jr') (q : gq_St (n + 1) Ir') (w : gr_KW Jr') (e : Ir' 0 68 = 0) : gp_P (n + 1) (a + a1) (s + s1) sh' ro' I' J' A' Ir' Jr' := by
  have e0 : I' 23 1 = 0 := k.2.2.2.1
  exact ⟨gk_mo h.1 hc' k hk, ⟨q, w⟩, r, e0.trans e.symm, fun j hj => absurd hj (by omega)⟩
end UC
/-- the bytes of THE TAPE as a text -/
def gp_tx (N : Int) (r : Nat → Int) (k : Int) : Int := if 0 ≤ k ∧ k < N then r (Int.toNat k) else 0
theorem gp_TX (N : Int) (r : Nat → Int) : gs_TX (gp_tx N r) N r := fun k => ⟨fun h1 h2 => if_pos ⟨h1, h2⟩, fun h => if_neg h⟩
theorem gp_TX2 {N : Int} {r r' : Nat → Int} (h : ∀ k : Nat, (k : Int) < N → r' k = r k) : gs_TX (gp_tx N r) N r' := fun k => ⟨fun h1 h2 => (if_pos ⟨h1, h2⟩).trans (h (Int.toNat k) (by omega)).symm, fun h => if_neg h⟩
