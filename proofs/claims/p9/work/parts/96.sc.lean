/-! module() of the class, with parity -/
theorem gs_sk_le {β : Int → Int} {N : Int} : ∀ (m : Nat) (k : Int), k ≤ gs_sk β N m k
  | 0, k => Int.le_refl _
  | m + 1, k => by
    show k ≤ (if k < N ∧ β k = 32 then gs_sk β N m (k + 1) else k)
    by_cases c : k < N ∧ β k = 32
    · rw [if_pos c]
      have := gs_sk_le (β := β) (N := N) m (k + 1)
      omega
    · rw [if_neg c]
      exact Int.le_refl _
theorem gs_A_0 {β : Int → Int} {N p : Int} (hN : 0 ≤ N) (hp : 0 ≤ p) : 0 ≤ gs_A β N p := by
  unfold gs_A
  have h : p ≤ gs_S β N p := gs_sk_le _ _
  by_cases c : N ≤ gs_S β N p
  · rw [if_pos c]
    exact hN
  · rw [if_neg c]
    omega
theorem gs_stc_1 {β : Int → Int} {N p : Int} {I : gr_I} {J : gr_J} (h : 0 ≤ gs_stc β N I J p) (hA : 0 ≤ gs_A β N p) : gs_T β N p = 1 := by
  apply Classical.byContradiction
  intro c
  rw [show gs_stc β N I J p = -1 - gs_A β N p from if_neg c] at h
  omega
/-- how the reference's module ends -/
def gs_FN (β : Int → Int) (N r : Int) (n0 : Nat) (Q : Nat → Int) (II : Nat → gr_I) (JJ : Nat → gr_J) (Ir0 IrE : gr_I) (JrE : gr_J) : Prop := (gs_T β N (Q n0) = 4 ∧ r = (n0 : Int) ∧ gs_TsX [] (II n0) (JJ n0) IrE JrE ∧ gr_LV (II n0) IrE) ∨ (¬ gs_T β N (Q n0) = 4 ∧ ∃ (I3 : gr_I) (J3 : gr_J) (I4 : gr_I) (J4 : gr_J), gs_TsX [] (II n0) (JJ n0) I3 J3 ∧ gs_stc β N I3 J3 (Q n0) < 0 ∧ r = gs_stc β N I3 J3 (Q n0) ∧ gs_TsX [] (II n0) (JJ n0) I4 J4 ∧ (gr_LV (II n0) I3 ∧ gr_LV (II n0) I4) ∧ gs_BK Ir0 I4 J4 IrE JrE)
/-- what the reference does at the k-th statement -/
theorem gs_FN_at {β : Int → Int} {N r : Int} {n0 k : Nat} {Q : Nat → Int} {II : Nat → gr_I} {JJ : Nat → gr_J} {Ir0 IrE I00 : gr_I} {JrE J00 : gr_J} (hQ : gs_MQ β N n0 I00 J00 Q II JJ) (hF : gs_FN β N r n0 Q II JJ Ir0 IrE JrE) (hk : k ≤ n0) (hT : ¬ gs_T β N (Q k) = 4) : ∃ (X : gr_I) (Y : gr_J), gs_TsX [] (II k) (JJ k) X Y ∧ gr_LV (II k) X ∧ ((k < n0 ∧ gs_stc β N X Y (Q k) = Q (k + 1) ∧ 0 ≤ Q (k + 1) ∧ gs_STU β N (Q k) X Y (II (k + 1)) (JJ (k + 1)) ∧ gr_LV X (II (k + 1))) ∨ (gs_stc β N X Y (Q k) < 0 ∧ r = gs_stc β N X Y (Q k) ∧ ∃ (I4 : gr_I) (J4 : gr_J), gs_TsX [] (II k) (JJ k) I4 J4 ∧ gr_LV (II k) I4 ∧ gs_BK Ir0 I4 J4 IrE JrE)) := by
  by_cases c : k < n0
  · obtain ⟨I1, J1, a, b, d, _, e, l1, l2⟩ := (hQ.2.2 k c).2
    exact ⟨I1, J1, a, l1, Or.inl ⟨c, b, d, e, l2⟩⟩
  · have kn : k = n0 := by omega
    subst kn
    rcases hF with ⟨a, _⟩ | ⟨_, I3, J3, I4, J4, a, b, d, e, ⟨l3, l4⟩, f⟩
    · exact absurd a hT
    · exact ⟨I3, J3, a, l3, Or.inr ⟨b, d, I4, J4, e, l4, f⟩⟩
theorem gs_R_u {sh : gz_Sh} {ro : Nat → Nat} {I : gr_I} {J : gr_J} {A : gc_A} {Ir : gr_I} {Jr : gr_J} (hs : gh_HS sh ro I J A) (h : gs_R I J A Ir Jr) : gs_R (gr_u I 23 1 0) J A Ir Jr := by
  have fz : ∀ q j : Nat, ¬ q = 23 → (gr_u I 23 1 0) q j = I q j := fun q j h => gr_u_ne I 0 (fun e => h e.1)
  exact gs_R_same h (gs_cG_9 (fun q j _ b _ => fz q j b) (fun _ _ _ => rfl) (fz 1 5 (by decide))) (fun i t hi ht => ⟨ht, gs_ct_s hs (fun q j h => fz q j (by omega)) (fun _ _ _ => rfl) i t hi ht⟩)
/-- meanings that came are counted anew; R and the rest do not speak of it -/
theorem gs_R_tz {I : gr_I} {J : gr_J} {A : gc_A} {Ir Irₚ : gr_I} {Jr Jrₚ : gr_J} (h : gs_R I J A Ir Jr) (ts : gs_TsX [199] Ir Jr Irₚ Jrₚ) : gs_R I J A Irₚ Jrₚ := by
  obtain ⟨n2, n4, n6, n8, gf, gk, hc, hT, h0⟩ := h
  have ra : gs_rA Ir Jr Irₚ Jrₚ := gs_rA_ts ts rfl
  exact ⟨gs_GN_fr n2 rfl (fun _ => rfl) (ts.1 2 rfl rfl) (ts.2.2 2 rfl rfl), gs_GN_fr n4 rfl (fun _ => rfl) (ts.1 3 rfl rfl) (ts.2.2 3 rfl rfl), gs_GN_fr n6 rfl (fun _ => rfl) (ts.1 4 rfl rfl) (ts.2.2 4 rfl rfl), gs_GN_fr n8 rfl (fun _ => rfl) (ts.1 1 rfl rfl) (ts.2.2 1 rfl rfl), gs_GF_fr gf rfl (fun _ => rfl) (fun _ => rfl) (ts.1 5 rfl rfl) (fun k => ⟨ts.2.2 5 rfl rfl k, ts.2.1 11 rfl rfl k, ts.2.1 12 rfl rfl k⟩), gs_GK_fr gk rfl (fun _ => rfl) (fun _ => rfl) (fun _ => rfl) (fun _ => rfl) (fun k => ⟨ts.2.1 6 rfl rfl k, ts.2.1 7 rfl rfl k, ts.2.1 8 rfl rfl k, ts.2.1 10 rfl rfl k⟩) (fun _ => rfl) (fun k => ts.2.1 9 rfl rfl k), hc.trans (ts.1 6 rfl rfl).symm, fun i t hi hA => gs_RT_fr (hT i t hi hA) ⟨⟨rfl, fun _ => rfl⟩, ⟨rfl, fun _ => rfl, fun _ => rfl, fun _ => rfl⟩, ⟨rfl, fun _ => rfl⟩, rfl, ⟨rfl, fun _ => rfl, fun _ => rfl, fun _ => rfl⟩, rfl, rfl, fun k q _ hA => ⟨hA, rfl⟩⟩ ra, gs_G0_fr h0 (by rw [ts.1 1 rfl rfl]; exact Int.le_refl _) (fun i _ _ => ra.1 i)⟩
theorem gs_CZ_0 {Ir Irₚ : gr_I} {Jr Jrₚ : gr_J} (ts : gs_TsX [199] Ir Jr Irₚ Jrₚ) (h : Irₚ 0 99 = 0) : gs_CZ Ir Irₚ := by
  refine ⟨⟨?_, fun j => ?_⟩, by omega, fun f hf => ?_, fun j hj => absurd hj (by omega)⟩
  · rw [ts.1 1 rfl rfl, ts.1 2 rfl rfl, ts.1 3 rfl rfl, ts.1 4 rfl rfl, ts.1 5 rfl rfl]
    omega
  · rw [ts.2.1 13 rfl rfl, ts.2.1 14 rfl rfl, ts.2.1 15 rfl rfl, ts.2.1 17 rfl rfl, ts.2.1 19 rfl rfl]
    omega
  · rw [ts.2.1 10 rfl rfl]
    exact ⟨Or.inl, fun h9 => h9.elim id (fun ⟨j, a, _⟩ => absurd a (by omega))⟩
set_option maxHeartbeats 8000000 in
set_option maxRecDepth 100000 in
theorem gh_mloop_p {ws0 : List Cond} {tb : String → gz_T} (hw : gc_Wn ws0) (hws : gc_Ws ws0) (htb : gc_tbs tb) (sh : gz_Sh) (ro : Nat → Nat) (I : gr_I) (J : gr_J) (A : gc_A) (hs : gh_HS sh ro I J A) (I1 : gr_I) (b0 : I1 21 0 = I 2 1) (b1 : I1 21 1 = I 4 1) (b2 : I1 21 2 = I 6 1) (b3 : I1 21 3 = I 8 1) (b4 : I1 21 4 = I 1 13) (b5 : I1 21 5 = I 1 17) (b6 : I1 21 6 = I 1 5) (bT : gc_mkT A I I1 (I 8 1)) (bM : ∀ f : Nat, f < 96 → I1 21 (63 + f) = I 15 f) (B : Int) (x0 : B ≤ 1280 ∧ I 1 17 + I 23 1 ≤ B) (β : Int → Int) (η r : Int) (n0 : Nat) (Q : Nat → Int) (II : Nat → gr_I) (JJ : Nat → gr_J) (Ir0 IrE I00 : gr_I) (Jr0 JrE J00 : gr_J) (hQ : gs_MQ β η n0 I00 J00 Q II JJ) (hF : gs_FN β η r n0 Q II JJ Ir0 IrE JrE) (hη : 0 ≤ η) (yR0 : gs_R I J A Ir0 Jr0) (yS0 : gs_RV I A Ir0) : ∀ (n : Nat) (dn : Int) (sh9 : gz_Sh) (ro9 : Nat → Nat) (I9 : gr_I) (J9 : gr_J) (A9 : gc_A), (1000 - dn).toNat < n → (0 ≤ dn ∧ dn ≤ 1000) → gh_HS sh9 ro9 I9 J9 A9 → gh_AO sh ro I A sh9 ro9 I9 A9 → gc_LT I9 → gc_TK I9 → I9 23 1 = I 23 1 → (B ≤ 1280 ∧ I9 1 17 + I9 23 1 ≤ B + I9 23 5) → (∀ k, I9 21 k = I1 21 k) → (Int.toNat dn ≤ n0 ∧ dn ≤ I9 23 5) → gc_AT β η (Q (Int.toNat dn)) 23 I9 J9 → 0 ≤ Q (Int.toNat dn) → I9 1 18 = 0 → gs_R I9 J9 A9 (II (Int.toNat dn)) (JJ (Int.toNat dn)) → gs_CZ Ir0 (II (Int.toNat dn)) → gs_RV I9 A9 (II (Int.toNat dn)) → gs_CV I A I9 A9 → gs_RKV Ir0 (II (Int.toNat dn)) → sh9.length + 25 * gh_nl A9 + 9 * (Int.toNat (I 23 1 - I9 23 5) + 1) ≤ 999000 → gv_Y (gc_E12 ws0 tb 92 (yX12_module, cX12_module, 2, (some .int)) kX12_module) (fun v a s => ∃ (z : Int) (shₚ : gz_Sh) (ro' : Nat → Nat) (Iₚ : gr_I) (Jₚ : gr_J) (Aₚ : gc_A), gz_fin cX12_module (some .int) v (some (.inl z)) ∧ v.2.2.2.1 = shₚ ∧ v.2.2.2.2 = gc_h shₚ Iₚ Jₚ Aₚ ∧ (gh_MO B sh ro I A z shₚ ro' Iₚ Jₚ Aₚ ∧ z = r ∧ gs_R Iₚ Jₚ Aₚ IrE JrE ∧ gs_RV Iₚ Aₚ IrE ∧ gs_CV I A Iₚ Aₚ) ∧ (a + 25 * gh_nl Aₚ ≤ 25 * gh_nl A9 + 9 * (Int.toNat (I 23 1 - I9 23 5) + 1) ∧ s + 45714 * gh_nl Aₚ ≤ 45714 * gh_nl A9 + 82 * (Int.toNat (I 23 1 - I9 23 5) + 1) ∧ shₚ.length + 25 * gh_nl Aₚ ≤ sh9.length + 25 * gh_nl A9 + 9 * (Int.toNat (I 23 1 - I9 23 5) + 1))) (9, [(0, .inr (.inr (some 0))), (1, .inl dn)], [], sh9, gc_h sh9 I9 J9 A9) := by
  have hb := hs.1
  have hI := hs.2.1
  have hok := hs.2.2.1
  have h144 := gc_Base_len hb
  have i8 : 0 ≤ I 8 1 ∧ I 8 1 ≤ 8 := gc_in hI (gc_bR hb (by decide) rfl) rfl rfl
  have i23 : 0 ≤ I 23 1 ∧ I 23 1 ≤ 1000 := gc_in hI (gc_bR hb (by decide) rfl) rfl rfl
  have hD : gv_D (gc_E12 ws0 tb 92 (yX12_module, cX12_module, 2, (some .int)) kX12_module) := gq_of oX12_module
  have fin0 : ∀ (sh9 : gz_Sh) (ro9 : Nat → Nat) (I9 : gr_I) (J9 : gr_J) (A9 : gc_A), gh_HS sh9 ro9 I9 J9 A9 → gh_AO sh ro I A sh9 ro9 I9 A9 → I9 1 17 ≤ B → gh_HS sh9 ro9 (gr_u I9 23 1 0) J9 A9 ∧ gh_AO sh ro I A sh9 ro9 (gr_u I9 23 1 0) A9 ∧ (gr_u I9 23 1 0) 23 1 = 0 ∧ (gr_u I9 23 1 0) 1 17 ≤ B ∧ (gr_u I9 23 1 0) 39 4 = I9 39 4 := fun sh9 ro9 I9 J9 A9 hs9 ao9 h17 => by
    have g3 : ∀ q j : Nat, (q = 23 ∧ j = 1) ∨ (gr_u I9 23 1 0) q j = I9 q j := fun q j => by
      by_cases h : q = 23 ∧ j = 1
      · exact Or.inl h
      · exact Or.inr (gr_u_ne I9 0 h)
    have S23 := gc_bS hs9.1 (p := 23) rfl
    have hI3 : gc_Inv ro9 (gr_u I9 23 1 0) := gc_Invu (lo := 0) (hi := 1000) hs9.2.1 (gc_bR hs9.1 (by decide) rfl) rfl rfl ⟨by decide, by decide⟩
    have ok3 : gc_OK sh9 (gr_u I9 23 1 0) J9 A9 := gc_OK_fr hs9.2.2.1 (fun q j => (g3 q j).imp (fun h => by
      obtain ⟨rfl, rfl⟩ := h
      exact ⟨gc_x_lt S23, gc_tyx S23⟩) id) (fun q j => Or.inr rfl)
    have fz : ∀ q j : Nat, ¬ (q = 23 ∧ j = 1) → (gr_u I9 23 1 0) q j = I9 q j := fun q j h => (g3 q j).resolve_left h
    have h3 := gh_HS_r hs9 hI3 ok3 (fun q j => (g3 q j).imp (fun h => by (/-0-/first | omega | (simp only [gz_hd] at *; omega))) id) (by have := fz 1 5 (by decide); have := hs9.2.2.2.2.2.2; (/-1-/first | (and_intros <;> omega) | (simp only [gz_hd] at *; omega)))
    exact ⟨h3.1, gh_AO_trans i8.2 hs9 h3.1 ao9 h3.2, gr_u_eq I9 23 1 0, by have := fz 1 17 (by decide); (/-2-/first | omega | (simp only [gz_hd] at *; omega)), fz 39 4 (by decide)⟩
  intro n
  induction n with
  | zero => intro dn sh9 ro9 I9 J9 A9 hn; (/-3-/first | omega | (simp only [gz_hd] at *; omega))
  | succ n ih =>
    intro dn sh9 ro9 I9 J9 A9 hn hdn hs9 ao9 kLT kTK e1 hp e21 hk5 yA yq y4 yR yZ yS yC yK hl9
    have hb9 := hs9.1
    have h144' := gc_Base_len hb9
    have S0 : sh9[0]? = some (false, 12, 17) := gc_bS hb9 rfl
    have S23 := gc_bS hb9 (p := 23) rfl
    have S39 : sh9[39]? = some (false, 6, 19) := gc_bS hb9 rfl
    have S1 : sh9[1]? = some (false, 8, 21) := gc_bS hb9 rfl
    have A00 : A9 0 0 = some 1 := gc_bA hb9 rfl
    have A01 : A9 0 1 = some 23 := gc_bA hb9 rfl
    have A05 : A9 0 5 = some 39 := gc_bA hb9 rfl
    have r7 : 0 ≤ I9 23 7 ∧ I9 23 7 ≤ 125 := gc_in hs9.2.1 (gc_bR hb9 (by decide) rfl) rfl rfl
    have r5 : 0 ≤ I9 23 5 ∧ I9 23 5 ≤ 1000 := gc_in hs9.2.1 (gc_bR hb9 (by decide) rfl) rfl rfl
    have tk := gc_TK_mo kTK
    have tA := gc_AT_l yA
    have r1 : 0 ≤ I9 23 1 ∧ I9 23 1 ≤ 1000 := gc_in hs9.2.1 (gc_bR hb9 (by decide) rfl) rfl rfl
    have ex : I9 23 7 = 4 → gv_Y (gc_E12 ws0 tb 92 (yX12_module, cX12_module, 2, (some .int)) kX12_module) (fun v a s => ∃ (z : Int) (shₚ : gz_Sh) (ro' : Nat → Nat) (Iₚ : gr_I) (Jₚ : gr_J) (Aₚ : gc_A), gz_fin cX12_module (some .int) v (some (.inl z)) ∧ v.2.2.2.1 = shₚ ∧ v.2.2.2.2 = gc_h shₚ Iₚ Jₚ Aₚ ∧ (gh_MO B sh ro I A z shₚ ro' Iₚ Jₚ Aₚ ∧ z = r ∧ gs_R Iₚ Jₚ Aₚ IrE JrE ∧ gs_RV Iₚ Aₚ IrE ∧ gs_CV I A Iₚ Aₚ) ∧ (a + 25 * gh_nl Aₚ ≤ 25 * gh_nl A9 + 9 * (Int.toNat (I 23 1 - I9 23 5) + 1) ∧ s + 45714 * gh_nl Aₚ ≤ 45714 * gh_nl A9 + 82 * (Int.toNat (I 23 1 - I9 23 5) + 1) ∧ shₚ.length + 25 * gh_nl Aₚ ≤ sh9.length + 25 * gh_nl A9 + 9 * (Int.toNat (I 23 1 - I9 23 5) + 1))) (68, [(0, .inr (.inr (some 0))), (1, .inl dn)], [], sh9, gc_h sh9 I9 J9 A9) := fun hT4 => by
      have kn : Int.toNat dn = n0 := by
        apply Classical.byContradiction
        intro c
        have h9 := (hQ.2.2 (Int.toNat dn) (by (/-4-/first | omega | (simp only [gz_hd] at *; omega)))).1
        (/-5-/first | omega | (simp only [gz_hd] at *; omega))
      have pz : dn = r ∧ gs_R (gr_u I9 23 1 0) J9 A9 IrE JrE ∧ gs_RV (gr_u I9 23 1 0) A9 IrE ∧ gs_CV I A (gr_u I9 23 1 0) A9 := by
        rcases hF with ⟨_, f2, f3, f4⟩ | ⟨f1, _⟩
        · rw [kn] at yR yS
          have e9 := gs_R_ts yR f3
          exact ⟨by (/-6-/first | omega | (simp only [gz_hd] at *; omega)), gs_R_u hs9 e9, gs_RV_u (gs_RV_ts yS yR (gs_h8_of hs9) f3 rfl f4) e9 hs9 (fun q j _ b => gr_u_ne I9 0 (fun h => b h.1)) (gr_u_ne I9 0 (by decide)) (gr_u_ne I9 0 (by decide)), gs_CV_u yC (fun q j b => gr_u_ne I9 0 (fun h => b h.1)) (fun i t hi hA => (gs_hT9 hs9 (show (i : Int) < I9 8 1 by have := yC.1.2.1; (/-7-/first | omega | (simp only [gz_hd] at *; omega))) hA).2)⟩
        · rw [← kn] at f1
          (/-8-/first | (and_intros <;> omega) | (simp only [gz_hd] at *; omega))
      refine gv_lift (fun hk => gv_run 1 true hD (pcₚ := 69) (lvₚ := [(0, .inr (.inr (some 0))), (1, .inl dn)]) (stₚ := [.inr (.inr (some 0))]) (hₚ := gc_h sh9 I9 J9 A9) (C := (True ∧ True)) rfl ⟨trivial, trivial⟩ hk) ?_
      refine gv_lift (fun hk => gv_get hD rfl rfl S0 ⟨by decide, by decide⟩ (gc_hA S0 rfl A01) hk) ?_
      refine gv_lift (fun hk => gv_run 1 true hD (pcₚ := 73) (lvₚ := [(0, .inr (.inr (some 0))), (1, .inl dn)]) (stₚ := [.inl 0, .inr (.inr (some 23))]) (hₚ := gc_h sh9 I9 J9 A9) (C := (True ∧ True)) rfl ⟨trivial, trivial⟩ hk) ?_
      refine gv_lift (fun hk => gv_put hD rfl rfl S23 ⟨by decide, by decide⟩ rfl trivial hk) ?_
      rw [gc_up S23 rfl]
      refine gv_lift (fun hk => gv_run 1 true hD (pcₚ := 77) (lvₚ := [(0, .inr (.inr (some 0))), (1, .inl dn)]) (stₚ := [.inl dn]) (hₚ := gc_h sh9 (gr_u I9 23 1 0) J9 A9) (C := (True ∧ True)) rfl ⟨trivial, trivial⟩ hk) ?_
      have f0 := gz_hi (fin0 sh9 ro9 I9 J9 A9 hs9 ao9 (by (/-9-/first | omega | (simp only [gz_hd] at *; omega))))
      exact gv_Yend ⟨dn, sh9, ro9, gr_u I9 23 1 0, J9, A9, Or.inr (Or.inl ⟨dn, .int, hD 77 _ rfl, rfl, Or.inl rfl, rfl, rfl⟩), rfl, rfl, ⟨⟨(gz_sh f0).1, (gz_sh f0).2.1, ⟨by (/-10-/first | omega | (simp only [gz_hd] at *; omega)), by (/-11-/first | omega | (simp only [gz_hd] at *; omega))⟩, (gz_sh f0).2.2.1, (gz_sh f0).2.2.2.1⟩, pz⟩, ⟨by (/-12-/first | omega | (simp only [gz_hd] at *; omega)), by (/-13-/first | omega | (simp only [gz_hd] at *; omega)), by (/-14-/first | omega | (simp only [gz_hd] at *; omega))⟩⟩
    refine gv_lift (fun hk => gv_run 2 true hD (pcₚ := 13) (lvₚ := [(0, .inr (.inr (some 0))), (1, .inl dn)]) (stₚ := [.inl 1000, .inl dn]) (hₚ := gc_h sh9 I9 J9 A9) (C := ((True ∧ True) ∧ True)) rfl ⟨⟨trivial, trivial⟩, trivial⟩ hk) ?_
    refine gv_YofX (gv_icmp_ge (t := 68) hD rfl rfl ⟨⟨by (/-15-/first | omega | (simp only [gz_hd] at *; omega)), by (/-16-/first | omega | (simp only [gz_hd] at *; omega))⟩, ⟨by (/-17-/first | omega | (simp only [gz_hd] at *; omega)), by (/-18-/first | omega | (simp only [gz_hd] at *; omega))⟩⟩ (fun c => gv_Xz (ex (Classical.byContradiction (fun h4 => by have h9 := gc_TK_st kTK h4; (/-19-/first | omega | (simp only [gz_hd] at *; omega)))))) (fun c => gv_Xz ?_))
    show gv_Y _ _ (16, [(0, .inr (.inr (some 0))), (1, .inl dn)], [], sh9, gc_h sh9 I9 J9 A9)
    refine gv_lift (fun hk => gv_run 1 true hD (pcₚ := 17) (lvₚ := [(0, .inr (.inr (some 0))), (1, .inl dn)]) (stₚ := [.inr (.inr (some 0))]) (hₚ := gc_h sh9 I9 J9 A9) (C := (True ∧ True)) rfl ⟨trivial, trivial⟩ hk) ?_
    refine gv_lift (fun hk => gv_get hD rfl rfl S0 ⟨by decide, by decide⟩ (gc_hA S0 rfl A01) hk) ?_
    refine gv_lift (fun hk => gv_get hD rfl rfl S23 ⟨by decide, by decide⟩ (gc_hI S23 rfl) hk) ?_
    refine gv_lift (fun hk => gv_run 1 true hD (pcₚ := 24) (lvₚ := [(0, .inr (.inr (some 0))), (1, .inl dn)]) (stₚ := [.inl 4, .inl (I9 23 7)]) (hₚ := gc_h sh9 I9 J9 A9) (C := (True ∧ True)) rfl ⟨trivial, trivial⟩ hk) ?_
    refine gv_YofX (gv_icmp_eq (t := 68) hD rfl rfl ⟨⟨by (/-20-/first | omega | (simp only [gz_hd] at *; omega)), by (/-21-/first | omega | (simp only [gz_hd] at *; omega))⟩, ⟨by (/-22-/first | omega | (simp only [gz_hd] at *; omega)), by (/-23-/first | omega | (simp only [gz_hd] at *; omega))⟩⟩ (fun c2 => gv_Xz (ex (by (/-24-/first | omega | (simp only [gz_hd] at *; omega))))) (fun c2 => gv_Xz ?_))
    show gv_Y _ _ (27, [(0, .inr (.inr (some 0))), (1, .inl dn)], [], sh9, gc_h sh9 I9 J9 A9)
    refine gv_lift (fun hk => gv_run 1 true hD (pcₚ := 28) (lvₚ := [(0, .inr (.inr (some 0))), (1, .inl dn)]) (stₚ := [.inr (.inr (some 0))]) (hₚ := gc_h sh9 I9 J9 A9) (C := (True ∧ True)) rfl ⟨trivial, trivial⟩ hk) ?_
    refine gv_lift (fun hk => gv_get hD rfl rfl S0 ⟨by decide, by decide⟩ (gc_hA S0 rfl A05) hk) ?_
    obtain ⟨X, Y, hX, lX, hC⟩ := gs_FN_at hQ hF hk5.1 (show ¬ gs_T β η (Q (Int.toNat dn)) = 4 by (/-25-/first | omega | (simp only [gz_hd] at *; omega)))
    obtain ⟨z, a, s, shₚ, ro', Iₚ, Jₚ, Aₚ, EV, hR, hz, hSP, hSC⟩ := e_X6_readStatement_p hw hws htb sh9 ro9 I9 J9 A9 hs9 B hp kLT kTK (by (/-26-/first | omega | (simp only [gz_hd] at *; omega))) β η (Q (Int.toNat dn)) X Y yA yq y4 (gs_R_ts yR hX) (gs_RV_ts yS yR (gs_h8_of hs9) hX rfl lX)
    refine gc_YcallV hD (ix := 126) (M := (yX6_readStatement, cX6_readStatement, 4, (some .boolean))) (As := []) (b := 39) (st := []) rfl rfl (by decide) S39 rfl (gc_lV12 hws rfl) (Nat.le_of_ble_eq_true rfl) EV (gc_okc (Or.inl (by (/-27-/first | omega | (simp only [gz_hd] at *; omega)))) (gc_okc trivial gc_ok0)) gc_ok0 ?_
    obtain ⟨q1, q2, q3, q4, q5, ⟨q6, q7, q8, q9⟩, q10, q11, q12⟩ := hR
    have tk2 := gc_TK_mo q5
    have ao2 := gh_AO_trans i8.2 hs9 q2 ao9 q3
    have hb2 := q2.1
    show gv_Y _ _ (34, [(0, .inr (.inr (some 0))), (1, .inl dn)], [.inl z], shₚ, gc_h shₚ Iₚ Jₚ Aₚ)
    refine gv_YofX (gv_if_ne (t := 62) hD rfl rfl ⟨by (/-28-/first | omega | (simp only [gz_hd] at *; omega)), by (/-29-/first | omega | (simp only [gz_hd] at *; omega))⟩ (fun c3 => gv_Xz ?_) (fun c3 => gv_Xz ?_))
    · show gv_Y _ _ (62, [(0, .inr (.inr (some 0))), (1, .inl dn)], [], shₚ, gc_h shₚ Iₚ Jₚ Aₚ)
      refine gv_lift (fun hk => gv_run 2 true hD (pcₚ := 9) (lvₚ := [(1, .inl (dn + 1)), (0, .inr (.inr (some 0)))]) (stₚ := []) (hₚ := gc_h shₚ Iₚ Jₚ Aₚ) (C := ((True ∧ True) ∧ True)) rfl ⟨⟨trivial, trivial⟩, trivial⟩ hk) ?_
      refine gv_lift (fun hk => gv_pick [1, 0] rfl hk) ?_
      obtain ⟨v1, v2, v3, v4⟩ := hSP.2 (by (/-30-/first | omega | (simp only [gz_hd] at *; omega)))
      have hC1 := hC.resolve_right (fun h => by have := h.1; (/-31-/first | omega | (simp only [gz_hd] at *; omega)))
      obtain ⟨u1, u2, u3, u4, u5⟩ := hC1
      have z1 : z = 1 := by (/-32-/first | omega | (simp only [gz_hd] at *; omega))
      rw [z1] at hSC
      have kd : Int.toNat (dn + 1) = Int.toNat dn + 1 := by (/-33-/first | omega | (simp only [gz_hd] at *; omega))
      have T1 := gs_stc_1 v1 (gs_A_0 hη yq)
      have yX : 0 ≤ gs_X β η (Q (Int.toNat dn)) := by have h8 : 0 ≤ I9 23 6 ∧ I9 23 6 ≤ 1001 := gc_in hs9.2.1 (gc_bR hb9 (by decide) rfl) rfl rfl; (/-34-/first | omega | (simp only [gz_hd] at *; omega))
      have z9 := gs_CZ_st (gs_CZ_ts yZ hX) (gs_A_0 hη yX) v1 T1 u4
      have hc9 : gs_K6 (gs_rn β η (Q (Int.toNat dn))) → 0 ≤ X 0 6 := fun hk => Classical.byContradiction (fun h9 => by
        have e9 : gs_stc β η X Y (Q (Int.toNat dn)) = -1 - gs_A β η (Q (Int.toNat dn)) := (if_pos T1).trans (gs_stk_n (gs_KO hk) (Or.inr (by (/-35-/first | omega | (simp only [gz_hd] at *; omega)))))
        have a9 := gs_A_0 hη yq (β := β)
        (/-36-/first | omega | (simp only [gz_hd] at *; omega)))
      have bX := gs_RbV_of hs9 (gs_R_ts yR hX)
      have bX' := gs_RbV_of q2 (v4 _ _ u4)
      have i8' : 0 ≤ Iₚ 8 1 ∧ Iₚ 8 1 ≤ 8 := gc_in q2.2.1 (gc_bR hb2 (by decide) rfl) rfl rfl
      have rs9 := gs_RV_st (gs_R_ts yR hX) (v4 _ _ u4) (gs_RV_ts yS yR (gs_h8_of hs9) hX rfl lX) hSC u4 u5 bX bX' hc9 i8'.2
      have ck9 := gs_CV_st yC hSC (q3.2.2.2.2.2.1).1
      have rk9 := gs_RKV_st (gs_RKV_ts yK hX rfl lX) u4 u5 bX bX' hc9
      rw [u2] at v2
      refine gh_Ym (fun v a9 s9 h => ?_) (ih (dn + 1) shₚ ro' Iₚ Jₚ Aₚ (by (/-37-/first | omega | (simp only [gz_hd] at *; omega))) (by (/-38-/first | (and_intros <;> omega) | (simp only [gz_hd] at *; omega))) q2 ao2 q4 q5 (by (/-39-/first | omega | (simp only [gz_hd] at *; omega))) ⟨x0.1, q8⟩ (fun k => (q9 k).trans (e21 k)) ⟨by (/-40-/first | omega | (simp only [gz_hd] at *; omega)), by (/-41-/first | omega | (simp only [gz_hd] at *; omega))⟩ (by rw [kd]; exact v2) (by rw [kd]; exact u3) v3 (by rw [kd]; exact v4 _ _ u4) (by rw [kd]; exact z9) (by rw [kd]; exact rs9) ck9 (by rw [kd]; exact rk9) (by (/-42-/first | omega | (simp only [gz_hd] at *; omega))))
      obtain ⟨z9, sh2, ro2, I2, J2, A2, w1, w2, w3, w4, w5, w6, w7⟩ := h
      exact ⟨z9, sh2, ro2, I2, J2, A2, w1, w2, w3, w4, by (/-43-/first | omega | (simp only [gz_hd] at *; omega)), by (/-44-/first | omega | (simp only [gz_hd] at *; omega)), by (/-45-/first | omega | (simp only [gz_hd] at *; omega))⟩
    show gv_Y _ _ (37, [(0, .inr (.inr (some 0))), (1, .inl dn)], [], shₚ, gc_h shₚ Iₚ Jₚ Aₚ)
    have S0b : shₚ[0]? = some (false, 12, 17) := gc_bS hb2 rfl
    have S23b := gc_bS hb2 (p := 23) rfl
    have S39b : shₚ[39]? = some (false, 6, 19) := gc_bS hb2 rfl
    have S1b : shₚ[1]? = some (false, 8, 21) := gc_bS hb2 rfl
    have A00b : Aₚ 0 0 = some 1 := gc_bA hb2 rfl
    have A01b : Aₚ 0 1 = some 23 := gc_bA hb2 rfl
    have A05b : Aₚ 0 5 = some 39 := gc_bA hb2 rfl
    refine gv_lift (fun hk => gv_run 1 true hD (pcₚ := 38) (lvₚ := [(0, .inr (.inr (some 0))), (1, .inl dn)]) (stₚ := [.inr (.inr (some 0))]) (hₚ := gc_h shₚ Iₚ Jₚ Aₚ) (C := (True ∧ True)) rfl ⟨trivial, trivial⟩ hk) ?_
    refine gv_lift (fun hk => gv_get hD rfl rfl S0b ⟨by decide, by decide⟩ (gc_hA S0b rfl A00b) hk) ?_
    have tg : ∀ j t : Nat, (j : Int) < I 8 1 → Aₚ 10 j = some t → A 10 j = some t := fun j t hj ht => by
        obtain ⟨u, hu, _⟩ := hs.2.2.2.2.1 j hj
        cases (ao2.2.2.2.2.2.2.1 j u (by (/-46-/first | omega | (simp only [gz_hd] at *; omega))) hu).symm.trans ht
        exact hu
    have f21 : ∀ k, Iₚ 21 k = I1 21 k := fun k => (q9 k).trans (e21 k)
    have hm : gh_MR Aₚ Iₚ I := ⟨⟨by rw [f21]; exact b0, by rw [f21]; exact b1, by rw [f21]; exact b2, by rw [f21]; exact b3, by rw [f21]; exact b4, by rw [f21]; exact b5, by rw [f21]; exact b6⟩, fun j t hj ht => by
        have h9 := bT j (by (/-47-/first | omega | (simp only [gz_hd] at *; omega))) t (tg j t hj ht)
        unfold gc_ts7 at h9 ⊢
        rw [f21, f21, f21, f21, f21, f21, f21]
        exact h9, fun f hf => by rw [f21]; exact bM f hf⟩
    obtain ⟨I2, EV2, hI2, hok2, hRE⟩ := e_X8_restore hws htb shₚ ro' Iₚ Jₚ Aₚ q2 I (by have := ao2.2.2.2.2.2.1; (/-48-/first | omega | (simp only [gz_hd] at *; omega))) hm (gh_R0_of hs tg)
    refine gv_lift (fun hk => gv_callV hD rfl (As := []) (st := []) rfl (by decide) S1b rfl (gc_lV12 hws rfl) (Nat.le_of_ble_eq_true rfl) (gz_Ev_mono (d := 3) (by decide) EV2) hk) ?_
    have hE := gh_HS_e hs q2 ao2 hI2 hok2 hRE
    obtain ⟨v1, v2, v3⟩ := hSP.1 (by (/-49-/first | omega | (simp only [gz_hd] at *; omega)))
    have hC1 := hC.resolve_left (fun h => by have := h.2.1; have := h.2.2.1; (/-50-/first | omega | (simp only [gz_hd] at *; omega)))
    obtain ⟨u1, u2, I4, J4, u3, l4, u4⟩ := hC1
    have i4 : 0 ≤ I 4 1 ∧ I 4 1 ≤ 96 := gc_in hI (gc_bR hb (by decide) rfl) rfl rfl
    have i2 : 0 ≤ I 2 1 ∧ I 2 1 ≤ 32 := gc_in hI (gc_bR hb (by decide) rfl) rfl rfl
    have i6 : 0 ≤ I 6 1 ∧ I 6 1 ≤ 8 := gc_in hI (gc_bR hb (by decide) rfl) rfl rfl
    have yB : gs_R I2 Jₚ Aₚ IrE JrE := gs_R_back q2 yR0 (gs_R_ts v3 (gs_Ts_tr (gs_Ts_sy hX) u3)) (gs_CZ_ts yZ u3) u4 hRE (by have := ao2.2.2.2.2.2.1; (/-51-/first | omega | (simp only [gz_hd] at *; omega))) i4.2 tg ⟨i2.1, i4.1, i6.1, i8.1⟩
    have rE := gs_RE_c q2 hRE (by have := ao2.2.2.2.2.2.1; (/-52-/first | omega | (simp only [gz_hd] at *; omega)))
    obtain ⟨b1, bc, _, _, tsB, ltB⟩ := id u4
    have ckb := gs_CV_st yC hSC (q3.2.2.2.2.2.1).1
    have rkb := gs_RKV_ts yK u3 rfl l4
    have rD := gs_RE_d q2 hRE (by have := ao2.2.2.2.2.2.1; (/-53-/first | omega | (simp only [gz_hd] at *; omega)))
    have ySb : gs_RV I2 Aₚ IrE := ⟨gs_RS_bk yS0.1 yR0 ckb.1 rkb.1 rE.1.1 rE.1.2 rE.2.1 rE.2.2 ltB.1.1 ltB.1.2 (fun j hj => ⟨(bc j hj).2.2.1, (bc j hj).2.2.2.1⟩) (fun j => ⟨tsB.2.1 26 rfl rfl j, tsB.2.1 27 rfl rfl j, tsB.2.1 28 rfl rfl j, tsB.2.1 29 rfl rfl j, tsB.2.1 30 rfl rfl j⟩) i8.2, gs_RW_bk yS0.2 yR0 ckb.1.1 ckb.2 rkb.1.1 rkb.2 rE.1.1 rE.1.2 rE.2.1 rD ltB b1.2.2.1 (fun j hj => ⟨(bc j hj).2.2.2.2.1, (bc j hj).2.2.2.2.2.1⟩) (gs_rr9 tsB rfl) i8.2⟩
    have e394 : I2 39 4 = Iₚ 39 4 := (hRE.2.2.2 39 4).resolve_left (fun h => by
      rcases h with h | h | ⟨i9, t9, h1, h2, h3⟩
      · unfold gh_sz at h
        (/-54-/first | omega | (simp only [gz_hd] at *; omega))
      · (/-55-/first | omega | (simp only [gz_hd] at *; omega))
      · have G := (q2.2.2.2.1.1 i9 t9 (by (/-56-/first | omega | (simp only [gz_hd] at *; omega))) h2).2.1
        unfold gh_c7 at h3
        (/-57-/first | omega | (simp only [gz_hd] at *; omega)))
    show gv_Y _ _ (44, [(0, .inr (.inr (some 0))), (1, .inl dn)], [], shₚ, gc_h shₚ I2 Jₚ Aₚ)
    refine gv_lift (fun hk => gv_run 1 true hD (pcₚ := 45) (lvₚ := [(0, .inr (.inr (some 0))), (1, .inl dn)]) (stₚ := [.inr (.inr (some 0))]) (hₚ := gc_h shₚ I2 Jₚ Aₚ) (C := (True ∧ True)) rfl ⟨trivial, trivial⟩ hk) ?_
    refine gv_lift (fun hk => gv_get hD rfl rfl S0b ⟨by decide, by decide⟩ (gc_hA S0b rfl A01b) hk) ?_
    refine gv_lift (fun hk => gv_run 1 true hD (pcₚ := 49) (lvₚ := [(0, .inr (.inr (some 0))), (1, .inl dn)]) (stₚ := [.inl 0, .inr (.inr (some 23))]) (hₚ := gc_h shₚ I2 Jₚ Aₚ) (C := (True ∧ True)) rfl ⟨trivial, trivial⟩ hk) ?_
    refine gv_lift (fun hk => gv_put hD rfl rfl S23b ⟨by decide, by decide⟩ rfl trivial hk) ?_
    rw [gc_up S23b rfl]
    refine gv_lift (fun hk => gv_run 2 true hD (pcₚ := 54) (lvₚ := [(0, .inr (.inr (some 0))), (1, .inl dn)]) (stₚ := [.inr (.inr (some 0)), .inl (-1)]) (hₚ := gc_h shₚ (gr_u I2 23 1 0) Jₚ Aₚ) (C := ((True ∧ True) ∧ True)) rfl ⟨⟨trivial, trivial⟩, trivial⟩ hk) ?_
    refine gv_lift (fun hk => gv_get hD rfl rfl S0b ⟨by decide, by decide⟩ (gc_hA S0b rfl A05b) hk) ?_
    have f0 := gz_hi (fin0 shₚ ro' I2 Jₚ Aₚ hE.1 hE.2 (by have := hRE.1; (/-58-/first | omega | (simp only [gz_hd] at *; omega))))
    have r4 : 0 ≤ (gr_u I2 23 1 0) 39 4 ∧ (gr_u I2 23 1 0) 39 4 ≤ 1000 := gc_in (gz_sh f0).1.2.1 (gc_bR hb2 (by decide) rfl) rfl rfl
    refine gv_lift (fun hk => gv_get hD rfl rfl S39b ⟨by decide, by decide⟩ (gc_hI S39b rfl) hk) ?_
    refine gv_lift (fun hk => gv_run 1 true hD (pcₚ := 61) (lvₚ := [(0, .inr (.inr (some 0))), (1, .inl dn)]) (stₚ := [.inl (-1 - (gr_u I2 23 1 0) 39 4)]) (hₚ := gc_h shₚ (gr_u I2 23 1 0) Jₚ Aₚ) (C := (True ∧ True)) rfl ⟨trivial, trivial⟩ hk) ?_
    exact gv_Yend ⟨-1 - (gr_u I2 23 1 0) 39 4, shₚ, ro', gr_u I2 23 1 0, Jₚ, Aₚ, Or.inr (Or.inl ⟨_, .int, hD 61 _ rfl, rfl, Or.inl rfl, rfl, rfl⟩), rfl, rfl, ⟨⟨(gz_sh f0).1, (gz_sh f0).2.1, ⟨by (/-59-/first | omega | (simp only [gz_hd] at *; omega)), by (/-60-/first | omega | (simp only [gz_hd] at *; omega))⟩, (gz_sh f0).2.2.1, (gz_sh f0).2.2.2.1⟩, ⟨by have := (gz_sh f0).2.2.2.2; (/-61-/first | (have o1 := gz_sh f0; omega) | (simp only [gz_hd] at *; omega)), gs_R_u hE.1 yB, gs_RV_u ySb yB hE.1 (fun q j _ b => gr_u_ne I2 0 (fun h => b h.1)) (gr_u_ne I2 0 (by decide)) (gr_u_ne I2 0 (by decide)), gs_CV_u (gs_CV_bk ckb rE.1.1 rE.1.2 rE.2.1 rE.2.2 rD) (fun q j b => gr_u_ne I2 0 (fun h => b h.1)) (fun i t hi hA => (gs_hT9 hE.1 (show (i : Int) < I2 8 1 by have := rE.1.1; (/-62-/first | omega | (simp only [gz_hd] at *; omega))) hA).2)⟩⟩, ⟨by (/-63-/first | omega | (simp only [gz_hd] at *; omega)), by (/-64-/first | omega | (simp only [gz_hd] at *; omega)), by (/-65-/first | omega | (simp only [gz_hd] at *; omega))⟩⟩
set_option maxHeartbeats 8000000 in
set_option maxRecDepth 100000 in
theorem e_X12_module_p {ws0 : List Cond} {tb : String → gz_T} (hw : gc_Wn ws0) (hws : gc_Ws ws0) (htb : gc_tbs tb) (sh : gz_Sh) (ro : Nat → Nat) (I : gr_I) (J : gr_J) (A : gc_A) (hs : gh_HS sh ro I J A) (B : Int) (x0 : B ≤ 1280 ∧ I 1 17 + I 23 1 ≤ B) (β : Int → Int) (η r : Int) (Ir0 IrE : gr_I) (Jr0 JrE : gr_J) (yt : gs_TX β η (I 24)) (yη : η = I 23 1) (yR0 : gs_R I J A Ir0 Jr0) (yS0 : gs_RV I A Ir0) (yM : gs_MD β η r Ir0 Jr0 IrE JrE) (hlen : sh.length + 25 * gh_nl A + 9 * (Int.toNat (I 23 1) + 1) ≤ 999000) : ∃ (z : Int) (a s : Nat) (shₚ : gz_Sh) (ro' : Nat → Nat) (Iₚ : gr_I) (Jₚ : gr_J) (Aₚ : gc_A), gz_Ev ws0 tb 93 (yX12_module, cX12_module, 2, (some .int)) [.inr (.inr (some 0))] sh (gc_h sh I J A) (some (.inl z)) shₚ (gc_h shₚ Iₚ Jₚ Aₚ) a s ∧ (gh_MO B sh ro I A z shₚ ro' Iₚ Jₚ Aₚ ∧ z = r ∧ gs_R Iₚ Jₚ Aₚ IrE JrE ∧ gs_RV Iₚ Aₚ IrE ∧ gs_CV I A Iₚ Aₚ) ∧ (a + 25 * gh_nl Aₚ ≤ 25 * gh_nl A + 9 * (Int.toNat (I 23 1) + 1) ∧ s + 45714 * gh_nl Aₚ ≤ 45714 * gh_nl A + 82 * (Int.toNat (I 23 1) + 1) ∧ shₚ.length + 25 * gh_nl Aₚ ≤ sh.length + 25 * gh_nl A + 9 * (Int.toNat (I 23 1) + 1)) := by
  have hb := hs.1
  have hI := hs.2.1
  have h144 := gc_Base_len hb
  have i8 : 0 ≤ I 8 1 ∧ I 8 1 ≤ 8 := gc_in hI (gc_bR hb (by decide) rfl) rfl rfl
  have i23 : 0 ≤ I 23 1 ∧ I 23 1 ≤ 1000 := gc_in hI (gc_bR hb (by decide) rfl) rfl rfl
  obtain ⟨r9, h9, E9, P9⟩ := d_X6_begin_p hws htb sh ro I J A hI β η hb (gh_Ts_of hs) yt yη
  obtain ⟨I1, J1, rfl, hI1, g, k, rfl, p0, p1, b0, b1, b2, b3, b4, b5, b6, bT, bM, bA, b18⟩ := P9
  have fz : ∀ q j : Nat, ¬ ((q = 39 ∧ j = 3) ∨ (q = 1 ∧ j = 18) ∨ q = 21 ∨ (q = 23 ∧ j = 5) ∨ (q = 23 ∧ j = 6) ∨ (q = 23 ∧ j = 7) ∨ (q = 23 ∧ j = 8)) → I1 q j = I q j := fun q j h => (g q j).resolve_left h
  have ok1 : gc_OK sh I1 J1 A := gc_OK_fr hs.2.2.1 (fun q j => (g q j).imp (fun h => by
      rcases h with ⟨rfl, rfl⟩ | ⟨rfl, rfl⟩ | rfl | ⟨rfl, rfl⟩ | ⟨rfl, rfl⟩ | ⟨rfl, rfl⟩ | ⟨rfl, rfl⟩
      · exact ⟨by omega, gc_tyx (gc_bS hb (p := 39) rfl)⟩
      · exact ⟨by omega, gc_tyx (gc_bS hb (p := 1) rfl)⟩
      · exact ⟨by omega, gc_tyx (gc_bS hb (p := 21) rfl)⟩
      · exact ⟨by omega, gc_tyx (gc_bS hb (p := 23) rfl)⟩
      · exact ⟨by omega, gc_tyx (gc_bS hb (p := 23) rfl)⟩
      · exact ⟨by omega, gc_tyx (gc_bS hb (p := 23) rfl)⟩
      · exact ⟨by omega, gc_tyx (gc_bS hb (p := 23) rfl)⟩
      ) id) (fun q j => (k q j).imp (fun h => by first | exact False.elim h | omega) id)
  have fu : gh_FU I I1 := gh_FU_of (fz 4 1 (by omega)) (fun j => fz 11 j (by omega)) (fun j => fz 12 j (by omega)) (fun j => fz 13 j (by omega))
  have hh := gh_HS_s hs hI1 ok1 (fun q j _ => (g q j).imp (fun h => by unfold gh_mw; omega) id) (fun q j h1 => fz q j (by omega)) (fz 8 1 (by omega)) (by have := fz 1 5 (by omega); have := hs.2.2.2.2.2.2; omega) (by have := fz 2 1 (by omega); omega) fu (gh_ME_of (fun j => fz 15 j (by omega)) (fun j => fz 16 j (by omega))) (gh_MS_st hs.2.2.2.2.2.1 fu (fun j => fz 15 j (by omega)) (fun j => fz 16 j (by omega)))
  have q1 := fz 23 1 (by omega)
  have q17 := fz 1 17 (by omega)
  have r5 : 0 ≤ I1 23 5 ∧ I1 23 5 ≤ 1000 := gc_in hI1 (gc_bR hb (by decide) rfl) rfl rfl
  have hD : gv_D (gc_E12 ws0 tb 92 (yX12_module, cX12_module, 2, (some .int)) kX12_module) := gq_of oX12_module
  have S0 : sh[0]? = some (false, 12, 17) := gc_bS_0 hb
  have S39 : sh[39]? = some (false, 6, 19) := gc_bS_39 hb
  have A05 : A 0 5 = some 39 := gc_bA_0_5 hb
  obtain ⟨n9, q9, I29, J29, n0, ⟨I00, J00, tsM, lM, z99, mr⟩, fin9⟩ := yM
  obtain ⟨Q, II, JJ, hQ, eQ, eI, eJ⟩ := gs_MR_MQ _ _ _ _ mr
  have hF : gs_FN β η r (Int.toNat n9) Q II JJ Ir0 IrE JrE := by
    unfold gs_FN
    rw [eQ, eI, eJ]
    rcases fin9 with ⟨a1, a2, a3⟩ | h
    · exact Or.inl ⟨a1, by omega, a3⟩
    · exact Or.inr h
  clear fin9
  have yR1 : gs_R I1 J1 A Ir0 Jr0 := gs_R_same yR0 ⟨⟨fz 2 1 (by omega), fz 4 1 (by omega), fz 6 1 (by omega), fz 8 1 (by omega)⟩, fun k9 => ⟨(k 3 k9).resolve_left (by omega), (k 5 k9).resolve_left (by omega), (k 7 k9).resolve_left (by omega), (k 9 k9).resolve_left (by omega), (k 18 k9).resolve_left (by omega)⟩, ⟨fz 1 13 (by omega), fz 1 5 (by omega)⟩, fun k9 => ⟨fz 11 k9 (by omega), fz 12 k9 (by omega), fz 13 k9 (by omega), fz 15 k9 (by omega), fz 19 k9 (by omega), fz 14 k9 (by omega)⟩⟩ (fun i9 t9 hi9 ht9 => ⟨ht9, gs_ct_s hs (fun q j h => fz q j (by omega)) (fun q j h => (k q j).resolve_left (by omega)) i9 t9 hi9 ht9⟩)
  have yR2 : gs_R I1 J1 A (II 0) (JJ 0) := gs_R_ts (gs_R_tz yR1 tsM) hQ.2.1.1
  have yZ : gs_CZ Ir0 (II 0) := gs_CZ_ts (gs_CZ_0 tsM z99) hQ.2.1.1
  obtain ⟨yS1, yC2⟩ := gs_RV_c yS0 yR0 hs (fun q j h => fz q j (by omega)) (fz 8 1 (by omega)) q17 (fun k9 => fz 20 k9 (by omega))
  have b81 : I1 8 1 ≤ 8 := by
    rw [fz 8 1 (by omega)]
    exact gs_h8_of hs
  have yS2 : gs_RV I1 A (II 0) := gs_RV_ts (gs_RV_ts yS1 yR1 b81 tsM rfl lM) (gs_R_tz yR1 tsM) b81 hQ.2.1.1 rfl hQ.2.1.2
  have yK2 : gs_RKV Ir0 (II 0) := gs_RKV_ts (gs_RKV_ts gs_RKV_rf tsM rfl lM) hQ.2.1.1 rfl hQ.2.1.2
  have hY := gh_mloop_p hw hws htb sh ro I J A hs I1 b0 b1 b2 b3 b4 b5 b6 bT bM B x0 β η r (Int.toNat n9) Q II JJ Ir0 IrE I00 Jr0 JrE J00 hQ hF (by omega) yR0 yS0 1001 0 sh ro I1 J1 A (by decide) ⟨by decide, by decide⟩ hh.1 hh.2 p1 p0 q1 (by omega) (fun _ => rfl) ⟨Nat.zero_le _, r5.1⟩ (by show gc_AT β η (Q 0) 23 I1 J1; rw [hQ.1]; exact bA) (by show 0 ≤ Q 0; rw [hQ.1]; exact Int.le_refl _) b18 yR2 yZ yS2 yC2 yK2 (by omega)
  suffices hZ : gv_Y (gc_E12 ws0 tb 92 (yX12_module, cX12_module, 2, (some .int)) kX12_module) (fun v a s => ∃ (z : Int) (shₚ : gz_Sh) (ro' : Nat → Nat) (Iₚ : gr_I) (Jₚ : gr_J) (Aₚ : gc_A), gz_fin cX12_module (some .int) v (some (.inl z)) ∧ v.2.2.2.1 = shₚ ∧ v.2.2.2.2 = gc_h shₚ Iₚ Jₚ Aₚ ∧ (gh_MO B sh ro I A z shₚ ro' Iₚ Jₚ Aₚ ∧ z = r ∧ gs_R Iₚ Jₚ Aₚ IrE JrE ∧ gs_RV Iₚ Aₚ IrE ∧ gs_CV I A Iₚ Aₚ) ∧ (a + 25 * gh_nl Aₚ ≤ 25 * gh_nl A + 9 * (Int.toNat (I 23 1 - I1 23 5) + 1) ∧ s + 45714 * gh_nl Aₚ ≤ 45714 * gh_nl A + 82 * (Int.toNat (I 23 1 - I1 23 5) + 1) ∧ shₚ.length + 25 * gh_nl Aₚ ≤ sh.length + 25 * gh_nl A + 9 * (Int.toNat (I 23 1 - I1 23 5) + 1))) (0, [(0, .inr (.inr (some 0)))], [], sh, gc_h sh I J A) by
    obtain ⟨n, v, a, s, h1, z, shₚ, ro', Iₚ, Jₚ, Aₚ, h2, h3, h4, h5, h6, h7, h8⟩ := hZ
    refine ⟨z, a, s, shₚ, ro', Iₚ, Jₚ, Aₚ, Or.inr (Or.inr ⟨by decide, Nat.le_of_ble_eq_true rfl, n, v, ?_, h2, h3, h4⟩), h5, by omega, by omega, by omega⟩
    show gz_to (gz_do ws0 RX12 (tb RX12) cX12_module 2 (gz_Ev ws0 tb 92)) n _ v a s
    rw [gc_tb12 htb]
    exact h1
  refine gv_lift (fun hk => gv_run 1 true hD (pcₚ := 1) (lvₚ := [(0, .inr (.inr (some 0)))]) (stₚ := [.inr (.inr (some 0))]) (hₚ := gc_h sh I J A) (C := (True ∧ True)) rfl ⟨trivial, trivial⟩ hk) ?_
  refine gv_lift (fun hk => gv_get hD rfl rfl S0 ⟨by decide, by decide⟩ (gc_hA S0 rfl A05) hk) ?_
  refine gv_lift (fun hk => gv_callV hD rfl (As := []) (st := []) rfl (by decide) S39 rfl (gc_lV12 hws rfl) (Nat.le_of_ble_eq_true rfl) (gz_Ev_mono (d := 4) (by decide) E9) hk) ?_
  show gv_Y _ _ (7, [(0, .inr (.inr (some 0)))], [], sh, gc_h sh I1 J1 A)
  refine gv_lift (fun hk => gv_run 2 true hD (pcₚ := 9) (lvₚ := [(1, .inl 0), (0, .inr (.inr (some 0)))]) (stₚ := []) (hₚ := gc_h sh I1 J1 A) (C := ((True ∧ True) ∧ True)) rfl ⟨⟨trivial, trivial⟩, trivial⟩ hk) ?_
  refine gv_lift (fun hk => gv_pick [1, 0] rfl hk) ?_
  exact hY
