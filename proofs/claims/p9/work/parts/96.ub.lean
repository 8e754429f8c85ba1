/-! THE REFERENCE OVER A WHOLE SCRIPT: what it keeps after n calls. -/
def gq_K (I : gr_I) : Prop := gr_Inv I ∧ gr_TM I ∧ gr_VF I ∧ gr_GR I ∧ gr_TO I ∧ gr_FM I ∧ gr_FV I ∧ gr_PL I ∧ gr_OX I
def gq_St (n : Nat) (I : gr_I) : Prop := gq_K I ∧ gr_LE (20 * (n : Int)) I ∧ I 0 59 + I 0 68 ≤ 20 * (n : Int) ∧ I 0 42 + I 0 68 ≤ 20 * (n : Int) ∧ I 0 64 + I 0 68 ≤ 20 * (n : Int) ∧ I 0 100 ≤ (n : Int) ∧ I 0 206 ≤ (n : Int)
theorem gr_LE_mo {B B' : Int} {I : gr_I} (h : gr_LE B I) (hb : B ≤ B') : gr_LE B' I := fun t ht => by
  have := h t ht
  omega
theorem gr_LE_tp {B B' : Int} {I Iₚ : gr_I} (h : gr_LE B I) (h1 : ∀ k, Iₚ 19 k = I 19 k) (h2 : Iₚ 0 68 - I 0 68 ≤ B' - B) : gr_LE B' Iₚ := fun t ht => by
  have := h t ht
  rw [h1]
  omega
/-- the tables that modules write -/
def gq_tb (a k : Nat) : Bool := match a with
  | 0 => (1 ≤ k && k ≤ 6) || (80 ≤ k && k ≤ 96) || k == 59 || k == 42
  | a + 1 => a + 1 ≤ 51
def gq_T0 (I : gr_I) (J : gr_J) (Iₚ : gr_I) (Jₚ : gr_J) : Prop := ∀ a k, gq_tb a k = true → Iₚ a k = I a k ∧ Jₚ a k = J a k
def gr_Na (I Iₚ : gr_I) : Prop := Iₚ 0 132 = I 0 132 ∧ Iₚ 0 133 = I 0 133 ∧ ∀ k, Iₚ 80 k = I 80 k
def gr_Nb (I Iₚ : gr_I) : Prop := Iₚ 0 136 = I 0 136 ∧ Iₚ 0 137 = I 0 137 ∧ Iₚ 0 138 = I 0 138 ∧ (∀ k, Iₚ 81 k = I 81 k) ∧ ∀ k, Iₚ 82 k = I 82 k
def gr_Nc (I Iₚ : gr_I) : Prop := Iₚ 0 211 = I 0 211 ∧ (∀ k, Iₚ 132 k = I 132 k) ∧ ∀ k, Iₚ 133 k = I 133 k
def gr_E9 (ν : Nat) (I Iₚ : gr_I) : Prop := (¬ ν = 1 → gr_Na I Iₚ) ∧ (¬ ν = 2 → gr_Nb I Iₚ) ∧ (¬ ν = 3 → gr_Nc I Iₚ)
def gq_T (ν : Nat) (I : gr_I) (J : gr_J) (Iₚ : gr_I) (Jₚ : gr_J) : Prop := gq_T0 I J Iₚ Jₚ ∧ gr_KR I Iₚ ∧ gr_E9 ν I Iₚ
/-- the keywords' names stay -/
theorem gq_T_kw {ν : Nat} {I Iₚ : gr_I} {J Jₚ : gr_J} (h : gq_T ν I J Iₚ Jₚ) (k : gr_KW J) : gr_KW Jₚ := fun i h1 h2 => ((h.1 0 i (by
  show ((1 ≤ i && i ≤ 6) || (80 ≤ i && i ≤ 96) || i == 59 || i == 42) = true
  simp only [Bool.or_eq_true, Bool.and_eq_true, decide_eq_true_eq]
  exact Or.inl (Or.inl (Or.inr ⟨h1, h2⟩)))).2).trans (k i h1 h2)
theorem gq_kwof {fs as : List Nat} {J Jₚ : gr_J} (G : gr_fj fs as J Jₚ) (h : (fs.all (fun k => !(80 ≤ k && k ≤ 96))) = true) (k : gr_KW J) : gr_KW Jₚ := fun i h1 h2 => (G 0 i (by
  cases hb : gr_in fs as 0 i with
  | false => rfl
  | true =>
    have h3 := List.all_eq_true.mp h i (List.elem_iff.mp hb)
    have h4 : (80 ≤ i && i ≤ 96) = true := by
      simp only [Bool.and_eq_true, decide_eq_true_eq]
      exact ⟨h1, h2⟩
    rw [h4] at h3
    exact absurd h3 (by decide))).trans (k i h1 h2)
def gq_hid (P : Prop) : Prop := P
theorem gq_Tin {fs as : List Nat} (h : (fs.all (fun k => !((1 ≤ k && k ≤ 6) || (80 ≤ k && k ≤ 96) || k == 59 || k == 42)) && as.all (fun a => 52 ≤ a)) = true) {a k : Nat} (ht : gq_tb a k = true) : gr_in fs as a k = false := by
  simp only [Bool.and_eq_true] at h
  cases hb : gr_in fs as a k with
  | false => rfl
  | true =>
    cases a with
    | zero =>
      have h1 := List.all_eq_true.mp h.1 k (List.elem_iff.mp hb)
      have h2 : ((1 ≤ k && k ≤ 6) || (80 ≤ k && k ≤ 96) || k == 59 || k == 42) = true := ht
      rw [h2] at h1
      exact absurd h1 (by decide)
    | succ a =>
      have h1 := List.all_eq_true.mp h.2 (a + 1) (List.elem_iff.mp hb)
      have h2 : decide (a + 1 ≤ 51) = true := ht
      have h3 := of_decide_eq_true h1
      have h4 := of_decide_eq_true h2
      omega
theorem gq_Tof0 {fs as fs' as' : List Nat} {I Iₚ : gr_I} {J Jₚ : gr_J} (F : gr_fr fs as I Iₚ) (G : gr_fj fs' as' J Jₚ) (h : (fs.all (fun k => !((1 ≤ k && k ≤ 6) || (80 ≤ k && k ≤ 96) || k == 59 || k == 42)) && as.all (fun a => 52 ≤ a)) = true) (g : (fs'.all (fun k => !((1 ≤ k && k ≤ 6) || (80 ≤ k && k ≤ 96) || k == 59 || k == 42)) && as'.all (fun a => 52 ≤ a)) = true) : gq_T0 I J Iₚ Jₚ := fun a k ht => ⟨F a k (gq_Tin h ht), G a k (gq_Tin g ht)⟩
theorem gq_Tof {ν : Nat} {fs as fs' as' : List Nat} {I Iₚ : gr_I} {J Jₚ : gr_J} (F : gr_fr fs as I Iₚ) (G : gr_fj fs' as' J Jₚ) (h : (fs.all (fun k => !((1 ≤ k && k ≤ 6) || (80 ≤ k && k ≤ 96) || k == 59 || k == 42)) && as.all (fun a => 52 ≤ a)) = true) (g : (fs'.all (fun k => !((1 ≤ k && k ≤ 6) || (80 ≤ k && k ≤ 96) || k == 59 || k == 42)) && as'.all (fun a => 52 ≤ a)) = true) (k : gr_kn fs as = true) (e : gr_E9 ν I Iₚ) : gq_T ν I J Iₚ Jₚ := ⟨gq_Tof0 F G h g, gr_KR_g gr_KR_rf F k, e⟩
theorem gq_Tok {ν : Nat} {fs as fs' as' : List Nat} {I Iₚ : gr_I} {J Jₚ : gr_J} (F : gr_fr fs as I Iₚ) (G : gr_fj fs' as' J Jₚ) (kr : gr_KR I Iₚ) (h : (fs.all (fun k => !((1 ≤ k && k ≤ 6) || (80 ≤ k && k ≤ 96) || k == 59 || k == 42)) && as.all (fun a => 52 ≤ a)) = true) (g : (fs'.all (fun k => !((1 ≤ k && k ≤ 6) || (80 ≤ k && k ≤ 96) || k == 59 || k == 42)) && as'.all (fun a => 52 ≤ a)) = true) (e : gr_E9 ν I Iₚ) : gq_T ν I J Iₚ Jₚ := ⟨gq_Tof0 F G h g, kr, e⟩
set_option maxHeartbeats 8000000 in
set_option maxRecDepth 100000 in
theorem q_feed {ws0 : List Cond} {tb : String → gz_T} (hws : ∀ w ∈ gr_ws, w ∈ ws0) (htb : tb RX13 = gr_T) (ext : gz_Sh) {n : Nat} {I : gr_I} {J : gr_J} (h : gq_St n I) (hn : n < 64) (a1 : Int) (a2 : Int) (a3 : Int) (a4 : Int) (a5 : Int) (ha1 : (-2147483648) ≤ a1 ∧ a1 ≤ 2147483647) (ha2 : (-2147483648) ≤ a2 ∧ a2 ≤ 2147483647) (ha3 : (-2147483648) ≤ a3 ∧ a3 ≤ 2147483647) (ha4 : (-2147483648) ≤ a4 ∧ a4 ≤ 2147483647) (ha5 : (-2147483648) ≤ a5 ∧ a5 ≤ 2147483647) : ∃ r hₚ, gz_Ev ws0 tb 1000 (yX13_feed, cX13_feed, 6, (some .int)) [.inr (.inr (some 0)), .inl a1, .inl a2, .inl a3, .inl a4, .inl a5] (gr_sh ++ ext) (gr_h I J) r (gr_sh ++ ext) hₚ 0 0 ∧ (∃ (Iₚ : gr_I) (Jₚ : gr_J), hₚ = gr_h Iₚ Jₚ ∧ gq_St (n + 1) Iₚ ∧ gq_T 0 I J Iₚ Jₚ ∧ (∃ z : Int, r = some (.inl z) ∧ (-2147483648) ≤ z ∧ z ≤ 2147483647 ∧ ((I 0 68 + 20 ≤ 1000 ∧ Iₚ 0 68 = I 0 68 + 20 ∧ z = I 0 68 + 20 ∧ Iₚ 0 0 = 0) ∨ (¬ I 0 68 + 20 ≤ 1000 ∧ Iₚ 0 68 = I 0 68 ∧ Iₚ 0 0 = 1)) ∧ (I 0 68 + 20 ≤ 1000 → gs_F5 a1 a2 a3 a4 a5 (Int.toNat (I 0 68)) (I 56) (Iₚ 56)) ∧ (¬ I 0 68 + 20 ≤ 1000 → ∀ k, Iₚ 56 k = I 56 k))) := by
  obtain ⟨⟨hI, KTM, KVF, KGR, KTO, KFM, KFV, KPL, KOX⟩, KLE, b1, b2, b3, b4, b5⟩ := h
  have rt := (gr_b_0_68 hI)
  obtain ⟨r, h1, E, P⟩ := r_feed_b (ws0 := ws0) (tb := tb) hws htb ext I J hI a1 a2 a3 a4 a5 ha1 ha2 ha3 ha4 ha5  
  obtain ⟨Iₚ, Jₚ, e1, hIₚ, F, G, ⟨z, hr, q⟩⟩ := P
  have qH : gq_hid ((I 0 68 + 20 ≤ 1000 → gs_F5 a1 a2 a3 a4 a5 (Int.toNat (I 0 68)) (I 56) (Iₚ 56)) ∧ (¬ I 0 68 + 20 ≤ 1000 → ∀ k, Iₚ 56 k = I 56 k)) := q.2.2.2
  replace q := And.intro q.1 (And.intro q.2.1 q.2.2.1)
  have KTM' := gr_TM_fr KTM (fun k => F 52 k rfl) (fun k => F 53 k rfl) (fun k => F 54 k rfl) (F 0 64 rfl)
  have KVF' := gr_VF_fr KVF (fun k => F 14 k rfl) (fun k => F 13 k rfl)
  have KGR' := gr_GR_fr KGR (fun k => F 19 k rfl) (fun k => F 18 k rfl) (fun k => F 36 k rfl) (fun k => F 41 k rfl) (fun k => F 42 k rfl) (fun k => F 43 k rfl) (fun k => F 45 k rfl) (fun k => F 46 k rfl) (fun k => F 47 k rfl) (fun k => F 6 k rfl) (fun k => F 7 k rfl) (fun k => F 8 k rfl) (F 0 3 rfl)
  have KTO' := gr_TO_fr KTO (fun k => F 52 k rfl) (fun k => F 53 k rfl) (fun k => F 54 k rfl) (fun k => F 55 k rfl) (fun k => F 6 k rfl) (F 0 64 rfl) (F 0 3 rfl)
  have KFM' := gr_FM_fr KFM (fun k => F 10 k rfl) (fun k => F 55 k rfl) (fun k => F 52 k rfl) (fun k => F 53 k rfl) (fun k => F 54 k rfl) (F 0 64 rfl) (F 0 3 rfl)
  have KFV' := gr_FV_fr KFV (fun k => F 87 k rfl) (fun k => F 88 k rfl) (fun k => F 104 k rfl) (fun k => F 90 k rfl) (fun k => F 91 k rfl) (fun k => F 92 k rfl) (fun k => F 94 k rfl) (fun k => F 95 k rfl) (fun k => F 97 k rfl) (fun k => F 98 k rfl) (fun k => F 19 k rfl) (fun k => F 18 k rfl) (fun k => F 41 k rfl) (fun k => F 6 k rfl) (fun k => F 99 k rfl) (fun k => F 105 k rfl) (fun k => F 107 k rfl) (fun k => F 108 k rfl) (fun k => F 110 k rfl) (fun k => F 111 k rfl) (F 0 157 rfl) (F 0 158 rfl) (F 0 177 rfl) (F 0 186 rfl) (F 0 159 rfl) hI
  have KPL' := gr_PL_fr KPL (fun k => F 114 k rfl) (fun k => F 115 k rfl) (fun k => F 6 k rfl) (F 0 3 rfl)
  have KOX' := gr_OX_fr KOX (fun k => F 121 k rfl) (fun k => F 120 k rfl)
  have e59 := F 0 59 rfl
  have e42 := F 0 42 rfl
  have e64 := F 0 64 rfl
  have e100 := F 0 100 rfl
  have eC := F 0 206 rfl
  have KLE' : gr_LE (20 * ((n + 1 : Nat) : Int)) Iₚ := gr_LE_tp KLE (fun k => F 19 k rfl) (by omega)
  exact ⟨r, h1, gz_Ev_mono (d := 2) (by decide) E, Iₚ, Jₚ, e1, ⟨⟨hIₚ, KTM', KVF', KGR', KTO', KFM', KFV', KPL', KOX'⟩, KLE', by omega, by omega, by omega, by omega, by omega⟩, gq_Tof F G (by decide) (by decide) (by decide) ⟨fun _ => ⟨F 0 132 rfl, F 0 133 rfl, fun k => F 80 k rfl⟩, fun _ => ⟨F 0 136 rfl, F 0 137 rfl, F 0 138 rfl, fun k => F 81 k rfl, fun k => F 82 k rfl⟩, fun _ => ⟨F 0 211 rfl, fun k => F 132 k rfl, fun k => F 133 k rfl⟩⟩, ⟨z, hr, by omega, by omega, by omega, qH.1, qH.2⟩⟩
set_option maxHeartbeats 8000000 in
set_option maxRecDepth 100000 in
theorem q_end {ws0 : List Cond} {tb : String → gz_T} (hws : ∀ w ∈ gr_ws, w ∈ ws0) (htb : tb RX13 = gr_T) (ext : gz_Sh) {n : Nat} {I : gr_I} {J : gr_J} (h : gq_St n I) (hn : n < 64) (a1 : Int) (ha1 : (-2147483648) ≤ a1 ∧ a1 ≤ 2147483647) : ∃ r hₚ, gz_Ev ws0 tb 1000 (yX13_end, cX13_end, 2, (some .int)) [.inr (.inr (some 0)), .inl a1] (gr_sh ++ ext) (gr_h I J) r (gr_sh ++ ext) hₚ 0 0 ∧ (∃ (Iₚ : gr_I) (Jₚ : gr_J), hₚ = gr_h Iₚ Jₚ ∧ gq_St (n + 1) Iₚ ∧ (gq_T 0 I J Iₚ Jₚ ∧ ∀ k, Iₚ 56 k = I 56 k) ∧ (∃ z : Int, r = some (.inl z) ∧ (-2147483648) ≤ z ∧ z ≤ 2147483647 ∧ (((0 ≤ a1 ∧ a1 ≤ I 0 68) ∧ Iₚ 0 68 = a1 ∧ z = a1 ∧ Iₚ 0 0 = 0) ∨ (¬ (0 ≤ a1 ∧ a1 ≤ I 0 68) ∧ Iₚ 0 68 = I 0 68 ∧ Iₚ 0 0 = 1)))) := by
  obtain ⟨⟨hI, KTM, KVF, KGR, KTO, KFM, KFV, KPL, KOX⟩, KLE, b1, b2, b3, b4, b5⟩ := h
  have rt := (gr_b_0_68 hI)
  obtain ⟨r, h1, E, P⟩ := r_end_t (ws0 := ws0) (tb := tb) hws htb ext I J hI a1 ha1  
  obtain ⟨Iₚ, Jₚ, e1, hIₚ, F, G, ⟨z, hr, q⟩⟩ := P
  have KTM' := gr_TM_fr KTM (fun k => F 52 k rfl) (fun k => F 53 k rfl) (fun k => F 54 k rfl) (F 0 64 rfl)
  have KVF' := gr_VF_fr KVF (fun k => F 14 k rfl) (fun k => F 13 k rfl)
  have KGR' := gr_GR_fr KGR (fun k => F 19 k rfl) (fun k => F 18 k rfl) (fun k => F 36 k rfl) (fun k => F 41 k rfl) (fun k => F 42 k rfl) (fun k => F 43 k rfl) (fun k => F 45 k rfl) (fun k => F 46 k rfl) (fun k => F 47 k rfl) (fun k => F 6 k rfl) (fun k => F 7 k rfl) (fun k => F 8 k rfl) (F 0 3 rfl)
  have KTO' := gr_TO_fr KTO (fun k => F 52 k rfl) (fun k => F 53 k rfl) (fun k => F 54 k rfl) (fun k => F 55 k rfl) (fun k => F 6 k rfl) (F 0 64 rfl) (F 0 3 rfl)
  have KFM' := gr_FM_fr KFM (fun k => F 10 k rfl) (fun k => F 55 k rfl) (fun k => F 52 k rfl) (fun k => F 53 k rfl) (fun k => F 54 k rfl) (F 0 64 rfl) (F 0 3 rfl)
  have KFV' := gr_FV_fr KFV (fun k => F 87 k rfl) (fun k => F 88 k rfl) (fun k => F 104 k rfl) (fun k => F 90 k rfl) (fun k => F 91 k rfl) (fun k => F 92 k rfl) (fun k => F 94 k rfl) (fun k => F 95 k rfl) (fun k => F 97 k rfl) (fun k => F 98 k rfl) (fun k => F 19 k rfl) (fun k => F 18 k rfl) (fun k => F 41 k rfl) (fun k => F 6 k rfl) (fun k => F 99 k rfl) (fun k => F 105 k rfl) (fun k => F 107 k rfl) (fun k => F 108 k rfl) (fun k => F 110 k rfl) (fun k => F 111 k rfl) (F 0 157 rfl) (F 0 158 rfl) (F 0 177 rfl) (F 0 186 rfl) (F 0 159 rfl) hI
  have KPL' := gr_PL_fr KPL (fun k => F 114 k rfl) (fun k => F 115 k rfl) (fun k => F 6 k rfl) (F 0 3 rfl)
  have KOX' := gr_OX_fr KOX (fun k => F 121 k rfl) (fun k => F 120 k rfl)
  have e59 := F 0 59 rfl
  have e42 := F 0 42 rfl
  have e64 := F 0 64 rfl
  have e100 := F 0 100 rfl
  have eC := F 0 206 rfl
  have KLE' : gr_LE (20 * ((n + 1 : Nat) : Int)) Iₚ := gr_LE_tp KLE (fun k => F 19 k rfl) (by omega)
  exact ⟨r, h1, gz_Ev_mono (d := 2) (by decide) E, Iₚ, Jₚ, e1, ⟨⟨hIₚ, KTM', KVF', KGR', KTO', KFM', KFV', KPL', KOX'⟩, KLE', by omega, by omega, by omega, by omega, by omega⟩, ⟨gq_Tof F G (by decide) (by decide) (by decide) ⟨fun _ => ⟨F 0 132 rfl, F 0 133 rfl, fun k => F 80 k rfl⟩, fun _ => ⟨F 0 136 rfl, F 0 137 rfl, F 0 138 rfl, fun k => F 81 k rfl, fun k => F 82 k rfl⟩, fun _ => ⟨F 0 211 rfl, fun k => F 132 k rfl, fun k => F 133 k rfl⟩⟩, fun k => F 56 k rfl⟩, ⟨z, hr, by omega, by omega, by omega⟩⟩
set_option maxHeartbeats 8000000 in
set_option maxRecDepth 100000 in
theorem q_out {ws0 : List Cond} {tb : String → gz_T} (hws : ∀ w ∈ gr_ws, w ∈ ws0) (htb : tb RX13 = gr_T) (ext : gz_Sh) {n : Nat} {I : gr_I} {J : gr_J} (h : gq_St n I) (hn : n < 64) (a1 : Int) (ha1 : (-2147483648) ≤ a1 ∧ a1 ≤ 2147483647) : ∃ r hₚ, gz_Ev ws0 tb 1000 (yX13_out, cX13_out, 2, (some .int)) [.inr (.inr (some 0)), .inl a1] (gr_sh ++ ext) (gr_h I J) r (gr_sh ++ ext) hₚ 0 0 ∧ (∃ (Iₚ : gr_I) (Jₚ : gr_J), hₚ = gr_h Iₚ Jₚ ∧ gq_St (n + 1) Iₚ ∧ (gq_T 0 I J Iₚ Jₚ ∧ ∀ k, Iₚ 56 k = I 56 k) ∧ (∃ z : Int, r = some (.inl z) ∧ (-2147483648) ≤ z ∧ z ≤ 2147483647 ∧ (Iₚ 0 68 = I 0 68))) := by
  obtain ⟨⟨hI, KTM, KVF, KGR, KTO, KFM, KFV, KPL, KOX⟩, KLE, b1, b2, b3, b4, b5⟩ := h
  have rt := (gr_b_0_68 hI)
  obtain ⟨r, h1, E, P⟩ := r_out (ws0 := ws0) (tb := tb) hws htb ext I J hI a1 ha1  
  obtain ⟨Iₚ, Jₚ, e1, hIₚ, F, G, ⟨z, hr, q⟩⟩ := P
  have KTM' := gr_TM_fr KTM (fun k => F 52 k rfl) (fun k => F 53 k rfl) (fun k => F 54 k rfl) (F 0 64 rfl)
  have KVF' := gr_VF_fr KVF (fun k => F 14 k rfl) (fun k => F 13 k rfl)
  have KGR' := gr_GR_fr KGR (fun k => F 19 k rfl) (fun k => F 18 k rfl) (fun k => F 36 k rfl) (fun k => F 41 k rfl) (fun k => F 42 k rfl) (fun k => F 43 k rfl) (fun k => F 45 k rfl) (fun k => F 46 k rfl) (fun k => F 47 k rfl) (fun k => F 6 k rfl) (fun k => F 7 k rfl) (fun k => F 8 k rfl) (F 0 3 rfl)
  have KTO' := gr_TO_fr KTO (fun k => F 52 k rfl) (fun k => F 53 k rfl) (fun k => F 54 k rfl) (fun k => F 55 k rfl) (fun k => F 6 k rfl) (F 0 64 rfl) (F 0 3 rfl)
  have KFM' := gr_FM_fr KFM (fun k => F 10 k rfl) (fun k => F 55 k rfl) (fun k => F 52 k rfl) (fun k => F 53 k rfl) (fun k => F 54 k rfl) (F 0 64 rfl) (F 0 3 rfl)
  have KFV' := gr_FV_fr KFV (fun k => F 87 k rfl) (fun k => F 88 k rfl) (fun k => F 104 k rfl) (fun k => F 90 k rfl) (fun k => F 91 k rfl) (fun k => F 92 k rfl) (fun k => F 94 k rfl) (fun k => F 95 k rfl) (fun k => F 97 k rfl) (fun k => F 98 k rfl) (fun k => F 19 k rfl) (fun k => F 18 k rfl) (fun k => F 41 k rfl) (fun k => F 6 k rfl) (fun k => F 99 k rfl) (fun k => F 105 k rfl) (fun k => F 107 k rfl) (fun k => F 108 k rfl) (fun k => F 110 k rfl) (fun k => F 111 k rfl) (F 0 157 rfl) (F 0 158 rfl) (F 0 177 rfl) (F 0 186 rfl) (F 0 159 rfl) hI
  have KPL' := gr_PL_fr KPL (fun k => F 114 k rfl) (fun k => F 115 k rfl) (fun k => F 6 k rfl) (F 0 3 rfl)
  have KOX' := gr_OX_fr KOX (fun k => F 121 k rfl) (fun k => F 120 k rfl)
  have e59 := F 0 59 rfl
  have e42 := F 0 42 rfl
  have e64 := F 0 64 rfl
  have e100 := F 0 100 rfl
  have eC := F 0 206 rfl
  have eT := F 0 68 rfl
  have KLE' : gr_LE (20 * ((n + 1 : Nat) : Int)) Iₚ := gr_LE_tp KLE (fun k => F 19 k rfl) (by omega)
  exact ⟨r, h1, gz_Ev_mono (d := 1) (by decide) E, Iₚ, Jₚ, e1, ⟨⟨hIₚ, KTM', KVF', KGR', KTO', KFM', KFV', KPL', KOX'⟩, KLE', by omega, by omega, by omega, by omega, by omega⟩, ⟨gq_Tof F G (by decide) (by decide) (by decide) ⟨fun _ => ⟨F 0 132 rfl, F 0 133 rfl, fun k => F 80 k rfl⟩, fun _ => ⟨F 0 136 rfl, F 0 137 rfl, F 0 138 rfl, fun k => F 81 k rfl, fun k => F 82 k rfl⟩, fun _ => ⟨F 0 211 rfl, fun k => F 132 k rfl, fun k => F 133 k rfl⟩⟩, fun k => F 56 k rfl⟩, ⟨z, hr, by omega, by omega, eT⟩⟩
set_option maxHeartbeats 8000000 in
set_option maxRecDepth 100000 in
theorem q_module {ws0 : List Cond} {tb : String → gz_T} (hws : ∀ w ∈ gr_ws, w ∈ ws0) (htb : tb RX13 = gr_T) (ext : gz_Sh) {n : Nat} {I : gr_I} {J : gr_J} (h : gq_St n I) (hn : n < 64) (β9 : Int → Int) (hx9 : gs_TX β9 (I 0 68) (I 56)) (hk9 : gr_KW J) (hp9 : gs_PDa I) : ∃ r hₚ, gz_Ev ws0 tb 1000 (yX13_module, cX13_module, 2, (some .int)) [.inr (.inr (some 0))] (gr_sh ++ ext) (gr_h I J) r (gr_sh ++ ext) hₚ 0 0 ∧ (∃ (Iₚ : gr_I) (Jₚ : gr_J), hₚ = gr_h Iₚ Jₚ ∧ gq_St (n + 1) Iₚ ∧ gr_KW Jₚ ∧ (∃ z : Int, r = some (.inl z) ∧ (-2147483648) ≤ z ∧ z ≤ 2147483647 ∧ (Iₚ 0 68 = 0) ∧ gs_MD β9 (I 0 68) z I J Iₚ Jₚ ∧ gr_MK z I Iₚ ∧ gr_E9 0 I Iₚ)) := by
  obtain ⟨⟨hI, KTM, KVF, KGR, KTO, KFM, KFV, KPL, KOX⟩, KLE, b1, b2, b3, b4, b5⟩ := h
  have rt := (gr_b_0_68 hI)
  obtain ⟨r, h1, E, P⟩ := r_module_p (ws0 := ws0) (tb := tb) hws htb ext (20 * (n : Int)) (by omega) β9 (I 0 68) I J hI   (by omega) (by omega) (by omega) (by omega) hx9 rfl hk9 hp9 KTM KVF KLE KGR KTO KFM
  obtain ⟨Iₚ, Jₚ, e1, hIₚ, F, G, KTM', KVF', KLE', KGR', KTO', KFM', ⟨z, hr, q⟩⟩ := P
  have qH : gq_hid (gs_MD β9 (I 0 68) z I J Iₚ Jₚ) := q.2.2.2.2.2.2.2.2
  have qS := q.2.2.2.2.2.2.2.1
  have qV : gq_hid (gr_MK z I Iₚ) := ⟨q.2.2.2.2.2.2.1, ⟨F 0 127 rfl, F 0 128 rfl⟩, fun k => F 78 k rfl, fun k => F 79 k rfl⟩
  replace q := And.intro q.1 (And.intro q.2.1 (And.intro q.2.2.1 (And.intro q.2.2.2.1 (And.intro q.2.2.2.2.1 (And.intro q.2.2.2.2.2.1 q.2.2.2.2.2.2.1)))))
  have KFV' := gr_FV_st KFV hI KGR qS (gr_b_0_159 hI) (fun k => F 87 k rfl) (fun k => F 88 k rfl) (fun k => F 104 k rfl) (fun k => F 90 k rfl) (fun k => F 91 k rfl) (fun k => F 92 k rfl) (fun k => F 94 k rfl) (fun k => F 95 k rfl) (fun k => F 97 k rfl) (fun k => F 98 k rfl) (fun k => F 99 k rfl) (fun k => F 105 k rfl) (fun k => F 107 k rfl) (fun k => F 108 k rfl) (fun k => F 110 k rfl) (fun k => F 111 k rfl) (F 0 157 rfl) (F 0 158 rfl) (F 0 177 rfl) (F 0 186 rfl) (F 0 159 rfl)
  have KPL' := gr_PL_st KPL qS (fun k => F 114 k rfl) (fun k => F 115 k rfl)
  have KOX' := gr_OX_fr KOX (fun k => F 121 k rfl) (fun k => F 120 k rfl)
  have eC := F 0 206 rfl
  have KLE9 : gr_LE (20 * ((n + 1 : Nat) : Int)) Iₚ := gr_LE_mo KLE' (by omega)
  exact ⟨r, h1, gz_Ev_mono (d := 101) (by decide) E, Iₚ, Jₚ, e1, ⟨⟨hIₚ, KTM', KVF', KGR', KTO', KFM', KFV', KPL', KOX'⟩, KLE9, by omega, by omega, by omega, by omega, by omega⟩, gq_kwof G (by decide) hk9, ⟨z, hr, by omega, by omega, by omega, qH, qV, ⟨fun _ => ⟨F 0 132 rfl, F 0 133 rfl, fun k => F 80 k rfl⟩, fun _ => ⟨F 0 136 rfl, F 0 137 rfl, F 0 138 rfl, fun k => F 81 k rfl, fun k => F 82 k rfl⟩, fun _ => ⟨F 0 211 rfl, fun k => F 132 k rfl, fun k => F 133 k rfl⟩⟩⟩⟩
set_option maxHeartbeats 8000000 in
set_option maxRecDepth 100000 in
theorem q_rule {ws0 : List Cond} {tb : String → gz_T} (hws : ∀ w ∈ gr_ws, w ∈ ws0) (htb : tb RX13 = gr_T) (ext : gz_Sh) {n : Nat} {I : gr_I} {J : gr_J} (h : gq_St n I) (hn : n < 64)   : ∃ r hₚ, gz_Ev ws0 tb 1000 (yX13_rule, cX13_rule, 1, (some .int)) [.inr (.inr (some 0))] (gr_sh ++ ext) (gr_h I J) r (gr_sh ++ ext) hₚ 0 0 ∧ (∃ (Iₚ : gr_I) (Jₚ : gr_J), hₚ = gr_h Iₚ Jₚ ∧ gq_St (n + 1) Iₚ ∧ (gq_T 0 I J Iₚ Jₚ ∧ ∀ k, Iₚ 56 k = I 56 k) ∧ (∃ z : Int, r = some (.inl z) ∧ (-2147483648) ≤ z ∧ z ≤ 2147483647 ∧ (Iₚ 0 68 = I 0 68))) := by
  obtain ⟨⟨hI, KTM, KVF, KGR, KTO, KFM, KFV, KPL, KOX⟩, KLE, b1, b2, b3, b4, b5⟩ := h
  have rt := (gr_b_0_68 hI)
  obtain ⟨r, h1, E, P⟩ := r_rule (ws0 := ws0) (tb := tb) hws htb ext I J hI    
  obtain ⟨Iₚ, Jₚ, e1, hIₚ, F, G, ⟨z, hr, q⟩⟩ := P
  have KTM' := gr_TM_fr KTM (fun k => F 52 k rfl) (fun k => F 53 k rfl) (fun k => F 54 k rfl) (F 0 64 rfl)
  have KVF' := gr_VF_fr KVF (fun k => F 14 k rfl) (fun k => F 13 k rfl)
  have KGR' := gr_GR_fr KGR (fun k => F 19 k rfl) (fun k => F 18 k rfl) (fun k => F 36 k rfl) (fun k => F 41 k rfl) (fun k => F 42 k rfl) (fun k => F 43 k rfl) (fun k => F 45 k rfl) (fun k => F 46 k rfl) (fun k => F 47 k rfl) (fun k => F 6 k rfl) (fun k => F 7 k rfl) (fun k => F 8 k rfl) (F 0 3 rfl)
  have KTO' := gr_TO_fr KTO (fun k => F 52 k rfl) (fun k => F 53 k rfl) (fun k => F 54 k rfl) (fun k => F 55 k rfl) (fun k => F 6 k rfl) (F 0 64 rfl) (F 0 3 rfl)
  have KFM' := gr_FM_fr KFM (fun k => F 10 k rfl) (fun k => F 55 k rfl) (fun k => F 52 k rfl) (fun k => F 53 k rfl) (fun k => F 54 k rfl) (F 0 64 rfl) (F 0 3 rfl)
  have KFV' := gr_FV_fr KFV (fun k => F 87 k rfl) (fun k => F 88 k rfl) (fun k => F 104 k rfl) (fun k => F 90 k rfl) (fun k => F 91 k rfl) (fun k => F 92 k rfl) (fun k => F 94 k rfl) (fun k => F 95 k rfl) (fun k => F 97 k rfl) (fun k => F 98 k rfl) (fun k => F 19 k rfl) (fun k => F 18 k rfl) (fun k => F 41 k rfl) (fun k => F 6 k rfl) (fun k => F 99 k rfl) (fun k => F 105 k rfl) (fun k => F 107 k rfl) (fun k => F 108 k rfl) (fun k => F 110 k rfl) (fun k => F 111 k rfl) (F 0 157 rfl) (F 0 158 rfl) (F 0 177 rfl) (F 0 186 rfl) (F 0 159 rfl) hI
  have KPL' := gr_PL_fr KPL (fun k => F 114 k rfl) (fun k => F 115 k rfl) (fun k => F 6 k rfl) (F 0 3 rfl)
  have KOX' := gr_OX_fr KOX (fun k => F 121 k rfl) (fun k => F 120 k rfl)
  have e59 := F 0 59 rfl
  have e42 := F 0 42 rfl
  have e64 := F 0 64 rfl
  have e100 := F 0 100 rfl
  have eC := F 0 206 rfl
  have eT := F 0 68 rfl
  have KLE' : gr_LE (20 * ((n + 1 : Nat) : Int)) Iₚ := gr_LE_tp KLE (fun k => F 19 k rfl) (by omega)
  exact ⟨r, h1, gz_Ev_mono (d := 1) (by decide) E, Iₚ, Jₚ, e1, ⟨⟨hIₚ, KTM', KVF', KGR', KTO', KFM', KFV', KPL', KOX'⟩, KLE', by omega, by omega, by omega, by omega, by omega⟩, ⟨gq_Tof F G (by decide) (by decide) (by decide) ⟨fun _ => ⟨F 0 132 rfl, F 0 133 rfl, fun k => F 80 k rfl⟩, fun _ => ⟨F 0 136 rfl, F 0 137 rfl, F 0 138 rfl, fun k => F 81 k rfl, fun k => F 82 k rfl⟩, fun _ => ⟨F 0 211 rfl, fun k => F 132 k rfl, fun k => F 133 k rfl⟩⟩, fun k => F 56 k rfl⟩, ⟨z, hr, by omega, by omega, eT⟩⟩
set_option maxHeartbeats 8000000 in
set_option maxRecDepth 100000 in
theorem q_sounds {ws0 : List Cond} {tb : String → gz_T} (hws : ∀ w ∈ gr_ws, w ∈ ws0) (htb : tb RX13 = gr_T) (ext : gz_Sh) {n : Nat} {I : gr_I} {J : gr_J} (h : gq_St n I) (hn : n < 64) (a1 : Int) (ha1 : (-2147483648) ≤ a1 ∧ a1 ≤ 2147483647) : ∃ r hₚ, gz_Ev ws0 tb 1000 (yX13_sounds, cX13_sounds, 3, (some .int)) [.inr (.inr (some 0)), .inl a1] (gr_sh ++ ext) (gr_h I J) r (gr_sh ++ ext) hₚ 0 0 ∧ (∃ (Iₚ : gr_I) (Jₚ : gr_J), hₚ = gr_h Iₚ Jₚ ∧ gq_St (n + 1) Iₚ ∧ (gq_T 0 I J Iₚ Jₚ ∧ ∀ k, Iₚ 56 k = I 56 k) ∧ (∃ z : Int, r = some (.inl z) ∧ (-2147483648) ≤ z ∧ z ≤ 2147483647 ∧ ((0 ≤ a1 ∧ a1 < I 0 1) → Iₚ 0 68 = 0) ∧ (¬ (0 ≤ a1 ∧ a1 < I 0 1) → Iₚ 0 68 = I 0 68))) := by
  obtain ⟨⟨hI, KTM, KVF, KGR, KTO, KFM, KFV, KPL, KOX⟩, KLE, b1, b2, b3, b4, b5⟩ := h
  have rt := (gr_b_0_68 hI)
  obtain ⟨r, h1, E, P⟩ := r_sounds_t (ws0 := ws0) (tb := tb) hws htb ext I J hI a1 ha1  
  obtain ⟨Iₚ, Jₚ, e1, hIₚ, F, G, ⟨z, hr, q⟩⟩ := P
  have KTM' := gr_TM_fr KTM (fun k => F 52 k rfl) (fun k => F 53 k rfl) (fun k => F 54 k rfl) (F 0 64 rfl)
  have KVF' := gr_VF_fr KVF (fun k => F 14 k rfl) (fun k => F 13 k rfl)
  have KGR' := gr_GR_fr KGR (fun k => F 19 k rfl) (fun k => F 18 k rfl) (fun k => F 36 k rfl) (fun k => F 41 k rfl) (fun k => F 42 k rfl) (fun k => F 43 k rfl) (fun k => F 45 k rfl) (fun k => F 46 k rfl) (fun k => F 47 k rfl) (fun k => F 6 k rfl) (fun k => F 7 k rfl) (fun k => F 8 k rfl) (F 0 3 rfl)
  have KTO' := gr_TO_fr KTO (fun k => F 52 k rfl) (fun k => F 53 k rfl) (fun k => F 54 k rfl) (fun k => F 55 k rfl) (fun k => F 6 k rfl) (F 0 64 rfl) (F 0 3 rfl)
  have KFM' := gr_FM_fr KFM (fun k => F 10 k rfl) (fun k => F 55 k rfl) (fun k => F 52 k rfl) (fun k => F 53 k rfl) (fun k => F 54 k rfl) (F 0 64 rfl) (F 0 3 rfl)
  have KFV' := gr_FV_fr KFV (fun k => F 87 k rfl) (fun k => F 88 k rfl) (fun k => F 104 k rfl) (fun k => F 90 k rfl) (fun k => F 91 k rfl) (fun k => F 92 k rfl) (fun k => F 94 k rfl) (fun k => F 95 k rfl) (fun k => F 97 k rfl) (fun k => F 98 k rfl) (fun k => F 19 k rfl) (fun k => F 18 k rfl) (fun k => F 41 k rfl) (fun k => F 6 k rfl) (fun k => F 99 k rfl) (fun k => F 105 k rfl) (fun k => F 107 k rfl) (fun k => F 108 k rfl) (fun k => F 110 k rfl) (fun k => F 111 k rfl) (F 0 157 rfl) (F 0 158 rfl) (F 0 177 rfl) (F 0 186 rfl) (F 0 159 rfl) hI
  have KPL' := gr_PL_fr KPL (fun k => F 114 k rfl) (fun k => F 115 k rfl) (fun k => F 6 k rfl) (F 0 3 rfl)
  have KOX' := gr_OX_fr KOX (fun k => F 121 k rfl) (fun k => F 120 k rfl)
  have e59 := F 0 59 rfl
  have e42 := F 0 42 rfl
  have e64 := F 0 64 rfl
  have e100 := F 0 100 rfl
  have eC := F 0 206 rfl
  have KLE' : gr_LE (20 * ((n + 1 : Nat) : Int)) Iₚ := gr_LE_tp KLE (fun k => F 19 k rfl) (by exact gz_m 0 (by omega))
  exact ⟨r, h1, gz_Ev_mono (d := 5) (by decide) E, Iₚ, Jₚ, e1, ⟨⟨hIₚ, KTM', KVF', KGR', KTO', KFM', KFV', KPL', KOX'⟩, KLE', by exact gz_m 1 (by omega), by exact gz_m 2 (by omega), by exact gz_m 3 (by omega), by exact gz_m 4 (by omega), by exact gz_m 5 (by omega)⟩, ⟨gq_Tof F G (by decide) (by decide) (by decide) ⟨fun _ => ⟨F 0 132 rfl, F 0 133 rfl, fun k => F 80 k rfl⟩, fun _ => ⟨F 0 136 rfl, F 0 137 rfl, F 0 138 rfl, fun k => F 81 k rfl, fun k => F 82 k rfl⟩, fun _ => ⟨F 0 211 rfl, fun k => F 132 k rfl, fun k => F 133 k rfl⟩⟩, fun k => F 56 k rfl⟩, ⟨z, hr, by exact gz_m 6 (by omega), by exact gz_m 7 (by omega), by exact gz_m 8 (by omega), by exact gz_m 9 (by omega)⟩⟩
set_option maxHeartbeats 8000000 in
set_option maxRecDepth 100000 in
theorem q_analysis {ws0 : List Cond} {tb : String → gz_T} (hws : ∀ w ∈ gr_ws, w ∈ ws0) (htb : tb RX13 = gr_T) (ext : gz_Sh) {n : Nat} {I : gr_I} {J : gr_J} (h : gq_St n I) (hn : n < 64) (a1 : Int) (a2 : Int) (ha1 : (-2147483648) ≤ a1 ∧ a1 ≤ 2147483647) (ha2 : (-2147483648) ≤ a2 ∧ a2 ≤ 2147483647) : ∃ r hₚ, gz_Ev ws0 tb 1000 (yX13_analysis, cX13_analysis, 6, (some .int)) [.inr (.inr (some 0)), .inl a1, .inl a2] (gr_sh ++ ext) (gr_h I J) r (gr_sh ++ ext) hₚ 0 0 ∧ (∃ (Iₚ : gr_I) (Jₚ : gr_J), hₚ = gr_h Iₚ Jₚ ∧ gq_St (n + 1) Iₚ ∧ (gq_T 0 I J Iₚ Jₚ ∧ ∀ k, Iₚ 56 k = I 56 k) ∧ (∃ z : Int, r = some (.inl z) ∧ (-2147483648) ≤ z ∧ z ≤ 2147483647 ∧ (Iₚ 0 68 = I 0 68))) := by
  obtain ⟨⟨hI, KTM, KVF, KGR, KTO, KFM, KFV, KPL, KOX⟩, KLE, b1, b2, b3, b4, b5⟩ := h
  have rt := (gr_b_0_68 hI)
  obtain ⟨r, h1, E, P⟩ := r_analysis (ws0 := ws0) (tb := tb) hws htb ext I J hI a1 a2 ha1 ha2  
  obtain ⟨Iₚ, Jₚ, e1, hIₚ, F, G, ⟨z, hr, q⟩⟩ := P
  have KTM' := gr_TM_fr KTM (fun k => F 52 k rfl) (fun k => F 53 k rfl) (fun k => F 54 k rfl) (F 0 64 rfl)
  have KVF' := gr_VF_fr KVF (fun k => F 14 k rfl) (fun k => F 13 k rfl)
  have KGR' := gr_GR_fr KGR (fun k => F 19 k rfl) (fun k => F 18 k rfl) (fun k => F 36 k rfl) (fun k => F 41 k rfl) (fun k => F 42 k rfl) (fun k => F 43 k rfl) (fun k => F 45 k rfl) (fun k => F 46 k rfl) (fun k => F 47 k rfl) (fun k => F 6 k rfl) (fun k => F 7 k rfl) (fun k => F 8 k rfl) (F 0 3 rfl)
  have KTO' := gr_TO_fr KTO (fun k => F 52 k rfl) (fun k => F 53 k rfl) (fun k => F 54 k rfl) (fun k => F 55 k rfl) (fun k => F 6 k rfl) (F 0 64 rfl) (F 0 3 rfl)
  have KFM' := gr_FM_fr KFM (fun k => F 10 k rfl) (fun k => F 55 k rfl) (fun k => F 52 k rfl) (fun k => F 53 k rfl) (fun k => F 54 k rfl) (F 0 64 rfl) (F 0 3 rfl)
  have KFV' := gr_FV_fr KFV (fun k => F 87 k rfl) (fun k => F 88 k rfl) (fun k => F 104 k rfl) (fun k => F 90 k rfl) (fun k => F 91 k rfl) (fun k => F 92 k rfl) (fun k => F 94 k rfl) (fun k => F 95 k rfl) (fun k => F 97 k rfl) (fun k => F 98 k rfl) (fun k => F 19 k rfl) (fun k => F 18 k rfl) (fun k => F 41 k rfl) (fun k => F 6 k rfl) (fun k => F 99 k rfl) (fun k => F 105 k rfl) (fun k => F 107 k rfl) (fun k => F 108 k rfl) (fun k => F 110 k rfl) (fun k => F 111 k rfl) (F 0 157 rfl) (F 0 158 rfl) (F 0 177 rfl) (F 0 186 rfl) (F 0 159 rfl) hI
  have KPL' := gr_PL_fr KPL (fun k => F 114 k rfl) (fun k => F 115 k rfl) (fun k => F 6 k rfl) (F 0 3 rfl)
  have KOX' := gr_OX_fr KOX (fun k => F 121 k rfl) (fun k => F 120 k rfl)
  have e59 := F 0 59 rfl
  have e42 := F 0 42 rfl
  have e64 := F 0 64 rfl
  have e100 := F 0 100 rfl
  have eC := F 0 206 rfl
  have eT := F 0 68 rfl
  have KLE' : gr_LE (20 * ((n + 1 : Nat) : Int)) Iₚ := gr_LE_tp KLE (fun k => F 19 k rfl) (by omega)
  exact ⟨r, h1, gz_Ev_mono (d := 2) (by decide) E, Iₚ, Jₚ, e1, ⟨⟨hIₚ, KTM', KVF', KGR', KTO', KFM', KFV', KPL', KOX'⟩, KLE', by omega, by omega, by omega, by omega, by omega⟩, ⟨gq_Tof F G (by decide) (by decide) (by decide) ⟨fun _ => ⟨F 0 132 rfl, F 0 133 rfl, fun k => F 80 k rfl⟩, fun _ => ⟨F 0 136 rfl, F 0 137 rfl, F 0 138 rfl, fun k => F 81 k rfl, fun k => F 82 k rfl⟩, fun _ => ⟨F 0 211 rfl, fun k => F 132 k rfl, fun k => F 133 k rfl⟩⟩, fun k => F 56 k rfl⟩, ⟨z, hr, by omega, by omega, eT⟩⟩
set_option maxHeartbeats 8000000 in
set_option maxRecDepth 100000 in
theorem q_cell {ws0 : List Cond} {tb : String → gz_T} (hws : ∀ w ∈ gr_ws, w ∈ ws0) (htb : tb RX13 = gr_T) (ext : gz_Sh) {n : Nat} {I : gr_I} {J : gr_J} (h : gq_St n I) (hn : n < 64) (a1 : Int) (a2 : Int) (a3 : Int) (ha1 : (-2147483648) ≤ a1 ∧ a1 ≤ 2147483647) (ha2 : (-2147483648) ≤ a2 ∧ a2 ≤ 2147483647) (ha3 : (-2147483648) ≤ a3 ∧ a3 ≤ 2147483647) : ∃ r hₚ, gz_Ev ws0 tb 1000 (yX13_cell, cX13_cell, 5, (some .int)) [.inr (.inr (some 0)), .inl a1, .inl a2, .inl a3] (gr_sh ++ ext) (gr_h I J) r (gr_sh ++ ext) hₚ 0 0 ∧ (∃ (Iₚ : gr_I) (Jₚ : gr_J), hₚ = gr_h Iₚ Jₚ ∧ gq_St (n + 1) Iₚ ∧ (gq_T 0 I J Iₚ Jₚ ∧ ∀ k, Iₚ 56 k = I 56 k) ∧ (∃ z : Int, r = some (.inl z) ∧ (-2147483648) ≤ z ∧ z ≤ 2147483647 ∧ (Iₚ 0 68 = I 0 68))) := by
  obtain ⟨⟨hI, KTM, KVF, KGR, KTO, KFM, KFV, KPL, KOX⟩, KLE, b1, b2, b3, b4, b5⟩ := h
  have rt := (gr_b_0_68 hI)
  obtain ⟨r, h1, E, P⟩ := r_cell (ws0 := ws0) (tb := tb) hws htb ext I J hI a1 a2 a3 ha1 ha2 ha3  
  obtain ⟨Iₚ, Jₚ, e1, hIₚ, F, G, ⟨z, hr, q⟩⟩ := P
  have KTM' := gr_TM_fr KTM (fun k => F 52 k rfl) (fun k => F 53 k rfl) (fun k => F 54 k rfl) (F 0 64 rfl)
  have KVF' := gr_VF_fr KVF (fun k => F 14 k rfl) (fun k => F 13 k rfl)
  have KGR' := gr_GR_fr KGR (fun k => F 19 k rfl) (fun k => F 18 k rfl) (fun k => F 36 k rfl) (fun k => F 41 k rfl) (fun k => F 42 k rfl) (fun k => F 43 k rfl) (fun k => F 45 k rfl) (fun k => F 46 k rfl) (fun k => F 47 k rfl) (fun k => F 6 k rfl) (fun k => F 7 k rfl) (fun k => F 8 k rfl) (F 0 3 rfl)
  have KTO' := gr_TO_fr KTO (fun k => F 52 k rfl) (fun k => F 53 k rfl) (fun k => F 54 k rfl) (fun k => F 55 k rfl) (fun k => F 6 k rfl) (F 0 64 rfl) (F 0 3 rfl)
  have KFM' := gr_FM_fr KFM (fun k => F 10 k rfl) (fun k => F 55 k rfl) (fun k => F 52 k rfl) (fun k => F 53 k rfl) (fun k => F 54 k rfl) (F 0 64 rfl) (F 0 3 rfl)
  have KFV' := gr_FV_fr KFV (fun k => F 87 k rfl) (fun k => F 88 k rfl) (fun k => F 104 k rfl) (fun k => F 90 k rfl) (fun k => F 91 k rfl) (fun k => F 92 k rfl) (fun k => F 94 k rfl) (fun k => F 95 k rfl) (fun k => F 97 k rfl) (fun k => F 98 k rfl) (fun k => F 19 k rfl) (fun k => F 18 k rfl) (fun k => F 41 k rfl) (fun k => F 6 k rfl) (fun k => F 99 k rfl) (fun k => F 105 k rfl) (fun k => F 107 k rfl) (fun k => F 108 k rfl) (fun k => F 110 k rfl) (fun k => F 111 k rfl) (F 0 157 rfl) (F 0 158 rfl) (F 0 177 rfl) (F 0 186 rfl) (F 0 159 rfl) hI
  have KPL' := gr_PL_fr KPL (fun k => F 114 k rfl) (fun k => F 115 k rfl) (fun k => F 6 k rfl) (F 0 3 rfl)
  have KOX' := gr_OX_fr KOX (fun k => F 121 k rfl) (fun k => F 120 k rfl)
  have e59 := F 0 59 rfl
  have e42 := F 0 42 rfl
  have e64 := F 0 64 rfl
  have e100 := F 0 100 rfl
  have eC := F 0 206 rfl
  have eT := F 0 68 rfl
  have KLE' : gr_LE (20 * ((n + 1 : Nat) : Int)) Iₚ := gr_LE_tp KLE (fun k => F 19 k rfl) (by omega)
  exact ⟨r, h1, gz_Ev_mono (d := 6) (by decide) E, Iₚ, Jₚ, e1, ⟨⟨hIₚ, KTM', KVF', KGR', KTO', KFM', KFV', KPL', KOX'⟩, KLE', by omega, by omega, by omega, by omega, by omega⟩, ⟨gq_Tof F G (by decide) (by decide) (by decide) ⟨fun _ => ⟨F 0 132 rfl, F 0 133 rfl, fun k => F 80 k rfl⟩, fun _ => ⟨F 0 136 rfl, F 0 137 rfl, F 0 138 rfl, fun k => F 81 k rfl, fun k => F 82 k rfl⟩, fun _ => ⟨F 0 211 rfl, fun k => F 132 k rfl, fun k => F 133 k rfl⟩⟩, fun k => F 56 k rfl⟩, ⟨z, hr, by omega, by omega, eT⟩⟩
set_option maxHeartbeats 8000000 in
set_option maxRecDepth 100000 in
theorem q_guessed {ws0 : List Cond} {tb : String → gz_T} (hws : ∀ w ∈ gr_ws, w ∈ ws0) (htb : tb RX13 = gr_T) (ext : gz_Sh) {n : Nat} {I : gr_I} {J : gr_J} (h : gq_St n I) (hn : n < 64) (a1 : Int) (a2 : Int) (ha1 : (-2147483648) ≤ a1 ∧ a1 ≤ 2147483647) (ha2 : (-2147483648) ≤ a2 ∧ a2 ≤ 2147483647) : ∃ r hₚ, gz_Ev ws0 tb 1000 (yX13_guessed, cX13_guessed, 3, (some .int)) [.inr (.inr (some 0)), .inl a1, .inl a2] (gr_sh ++ ext) (gr_h I J) r (gr_sh ++ ext) hₚ 0 0 ∧ (∃ (Iₚ : gr_I) (Jₚ : gr_J), hₚ = gr_h Iₚ Jₚ ∧ gq_St (n + 1) Iₚ ∧ (gq_T 0 I J Iₚ Jₚ ∧ ∀ k, Iₚ 56 k = I 56 k) ∧ (∃ z : Int, r = some (.inl z) ∧ (-2147483648) ≤ z ∧ z ≤ 2147483647 ∧ (Iₚ 0 68 = I 0 68))) := by
  obtain ⟨⟨hI, KTM, KVF, KGR, KTO, KFM, KFV, KPL, KOX⟩, KLE, b1, b2, b3, b4, b5⟩ := h
  have rt := (gr_b_0_68 hI)
  obtain ⟨r, h1, E, P⟩ := r_guessed (ws0 := ws0) (tb := tb) hws htb ext I J hI a1 a2 ha1 ha2  
  obtain ⟨Iₚ, Jₚ, e1, hIₚ, F, G, ⟨z, hr, q⟩⟩ := P
  have KTM' := gr_TM_fr KTM (fun k => F 52 k rfl) (fun k => F 53 k rfl) (fun k => F 54 k rfl) (F 0 64 rfl)
  have KVF' := gr_VF_fr KVF (fun k => F 14 k rfl) (fun k => F 13 k rfl)
  have KGR' := gr_GR_fr KGR (fun k => F 19 k rfl) (fun k => F 18 k rfl) (fun k => F 36 k rfl) (fun k => F 41 k rfl) (fun k => F 42 k rfl) (fun k => F 43 k rfl) (fun k => F 45 k rfl) (fun k => F 46 k rfl) (fun k => F 47 k rfl) (fun k => F 6 k rfl) (fun k => F 7 k rfl) (fun k => F 8 k rfl) (F 0 3 rfl)
  have KTO' := gr_TO_fr KTO (fun k => F 52 k rfl) (fun k => F 53 k rfl) (fun k => F 54 k rfl) (fun k => F 55 k rfl) (fun k => F 6 k rfl) (F 0 64 rfl) (F 0 3 rfl)
  have KFM' := gr_FM_fr KFM (fun k => F 10 k rfl) (fun k => F 55 k rfl) (fun k => F 52 k rfl) (fun k => F 53 k rfl) (fun k => F 54 k rfl) (F 0 64 rfl) (F 0 3 rfl)
  have KFV' := gr_FV_fr KFV (fun k => F 87 k rfl) (fun k => F 88 k rfl) (fun k => F 104 k rfl) (fun k => F 90 k rfl) (fun k => F 91 k rfl) (fun k => F 92 k rfl) (fun k => F 94 k rfl) (fun k => F 95 k rfl) (fun k => F 97 k rfl) (fun k => F 98 k rfl) (fun k => F 19 k rfl) (fun k => F 18 k rfl) (fun k => F 41 k rfl) (fun k => F 6 k rfl) (fun k => F 99 k rfl) (fun k => F 105 k rfl) (fun k => F 107 k rfl) (fun k => F 108 k rfl) (fun k => F 110 k rfl) (fun k => F 111 k rfl) (F 0 157 rfl) (F 0 158 rfl) (F 0 177 rfl) (F 0 186 rfl) (F 0 159 rfl) hI
  have KPL' := gr_PL_fr KPL (fun k => F 114 k rfl) (fun k => F 115 k rfl) (fun k => F 6 k rfl) (F 0 3 rfl)
  have KOX' := gr_OX_fr KOX (fun k => F 121 k rfl) (fun k => F 120 k rfl)
  have e59 := F 0 59 rfl
  have e42 := F 0 42 rfl
  have e64 := F 0 64 rfl
  have e100 := F 0 100 rfl
  have eC := F 0 206 rfl
  have eT := F 0 68 rfl
  have KLE' : gr_LE (20 * ((n + 1 : Nat) : Int)) Iₚ := gr_LE_tp KLE (fun k => F 19 k rfl) (by omega)
  exact ⟨r, h1, gz_Ev_mono (d := 2) (by decide) E, Iₚ, Jₚ, e1, ⟨⟨hIₚ, KTM', KVF', KGR', KTO', KFM', KFV', KPL', KOX'⟩, KLE', by omega, by omega, by omega, by omega, by omega⟩, ⟨gq_Tof F G (by decide) (by decide) (by decide) ⟨fun _ => ⟨F 0 132 rfl, F 0 133 rfl, fun k => F 80 k rfl⟩, fun _ => ⟨F 0 136 rfl, F 0 137 rfl, F 0 138 rfl, fun k => F 81 k rfl, fun k => F 82 k rfl⟩, fun _ => ⟨F 0 211 rfl, fun k => F 132 k rfl, fun k => F 133 k rfl⟩⟩, fun k => F 56 k rfl⟩, ⟨z, hr, by omega, by omega, eT⟩⟩
set_option maxHeartbeats 8000000 in
set_option maxRecDepth 100000 in
theorem q_number {ws0 : List Cond} {tb : String → gz_T} (hws : ∀ w ∈ gr_ws, w ∈ ws0) (htb : tb RX13 = gr_T) (ext : gz_Sh) {n : Nat} {I : gr_I} {J : gr_J} (h : gq_St n I) (hn : n < 64) (a1 : Int) (a2 : Int) (ha1 : (-2147483648) ≤ a1 ∧ a1 ≤ 2147483647) (ha2 : (-2147483648) ≤ a2 ∧ a2 ≤ 2147483647) : ∃ r hₚ, gz_Ev ws0 tb 1000 (yX13_number, cX13_number, 5, (some .int)) [.inr (.inr (some 0)), .inl a1, .inl a2] (gr_sh ++ ext) (gr_h I J) r (gr_sh ++ ext) hₚ 0 0 ∧ (∃ (Iₚ : gr_I) (Jₚ : gr_J), hₚ = gr_h Iₚ Jₚ ∧ gq_St (n + 1) Iₚ ∧ (gq_T 0 I J Iₚ Jₚ ∧ ∀ k, Iₚ 56 k = I 56 k) ∧ (∃ z : Int, r = some (.inl z) ∧ (-2147483648) ≤ z ∧ z ≤ 2147483647 ∧ (((0 ≤ a2 ∧ a2 ≤ 5) ∧ (a2 ≤ 2 ∨ (0 ≤ a1 ∧ a1 < I 0 1))) → Iₚ 0 68 = 0) ∧ (¬ ((0 ≤ a2 ∧ a2 ≤ 5) ∧ (a2 ≤ 2 ∨ (0 ≤ a1 ∧ a1 < I 0 1))) → Iₚ 0 68 = I 0 68))) := by
  obtain ⟨⟨hI, KTM, KVF, KGR, KTO, KFM, KFV, KPL, KOX⟩, KLE, b1, b2, b3, b4, b5⟩ := h
  have rt := (gr_b_0_68 hI)
  obtain ⟨r, h1, E, P⟩ := r_number_t (ws0 := ws0) (tb := tb) hws htb ext I J hI a1 a2 ha1 ha2  
  obtain ⟨Iₚ, Jₚ, e1, hIₚ, F, G, ⟨z, hr, q⟩⟩ := P
  have KTM' := gr_TM_fr KTM (fun k => F 52 k rfl) (fun k => F 53 k rfl) (fun k => F 54 k rfl) (F 0 64 rfl)
  have KVF' := gr_VF_fr KVF (fun k => F 14 k rfl) (fun k => F 13 k rfl)
  have KGR' := gr_GR_fr KGR (fun k => F 19 k rfl) (fun k => F 18 k rfl) (fun k => F 36 k rfl) (fun k => F 41 k rfl) (fun k => F 42 k rfl) (fun k => F 43 k rfl) (fun k => F 45 k rfl) (fun k => F 46 k rfl) (fun k => F 47 k rfl) (fun k => F 6 k rfl) (fun k => F 7 k rfl) (fun k => F 8 k rfl) (F 0 3 rfl)
  have KTO' := gr_TO_fr KTO (fun k => F 52 k rfl) (fun k => F 53 k rfl) (fun k => F 54 k rfl) (fun k => F 55 k rfl) (fun k => F 6 k rfl) (F 0 64 rfl) (F 0 3 rfl)
  have KFM' := gr_FM_fr KFM (fun k => F 10 k rfl) (fun k => F 55 k rfl) (fun k => F 52 k rfl) (fun k => F 53 k rfl) (fun k => F 54 k rfl) (F 0 64 rfl) (F 0 3 rfl)
  have KFV' := gr_FV_fr KFV (fun k => F 87 k rfl) (fun k => F 88 k rfl) (fun k => F 104 k rfl) (fun k => F 90 k rfl) (fun k => F 91 k rfl) (fun k => F 92 k rfl) (fun k => F 94 k rfl) (fun k => F 95 k rfl) (fun k => F 97 k rfl) (fun k => F 98 k rfl) (fun k => F 19 k rfl) (fun k => F 18 k rfl) (fun k => F 41 k rfl) (fun k => F 6 k rfl) (fun k => F 99 k rfl) (fun k => F 105 k rfl) (fun k => F 107 k rfl) (fun k => F 108 k rfl) (fun k => F 110 k rfl) (fun k => F 111 k rfl) (F 0 157 rfl) (F 0 158 rfl) (F 0 177 rfl) (F 0 186 rfl) (F 0 159 rfl) hI
  have KPL' := gr_PL_fr KPL (fun k => F 114 k rfl) (fun k => F 115 k rfl) (fun k => F 6 k rfl) (F 0 3 rfl)
  have KOX' := gr_OX_fr KOX (fun k => F 121 k rfl) (fun k => F 120 k rfl)
  have e59 := F 0 59 rfl
  have e42 := F 0 42 rfl
  have e64 := F 0 64 rfl
  have e100 := F 0 100 rfl
  have eC := F 0 206 rfl
  have KLE' : gr_LE (20 * ((n + 1 : Nat) : Int)) Iₚ := gr_LE_tp KLE (fun k => F 19 k rfl) (by omega)
  exact ⟨r, h1, gz_Ev_mono (d := 11) (by decide) E, Iₚ, Jₚ, e1, ⟨⟨hIₚ, KTM', KVF', KGR', KTO', KFM', KFV', KPL', KOX'⟩, KLE', by omega, by omega, by omega, by omega, by omega⟩, ⟨gq_Tof F G (by decide) (by decide) (by decide) ⟨fun _ => ⟨F 0 132 rfl, F 0 133 rfl, fun k => F 80 k rfl⟩, fun _ => ⟨F 0 136 rfl, F 0 137 rfl, F 0 138 rfl, fun k => F 81 k rfl, fun k => F 82 k rfl⟩, fun _ => ⟨F 0 211 rfl, fun k => F 132 k rfl, fun k => F 133 k rfl⟩⟩, fun k => F 56 k rfl⟩, ⟨z, hr, by omega, by omega, by omega, by omega⟩⟩
set_option maxHeartbeats 8000000 in
set_option maxRecDepth 100000 in
theorem q_parse {ws0 : List Cond} {tb : String → gz_T} (hws : ∀ w ∈ gr_ws, w ∈ ws0) (htb : tb RX13 = gr_T) (ext : gz_Sh) {n : Nat} {I : gr_I} {J : gr_J} (h : gq_St n I) (hn : n < 64) (a1 : Int) (a2 : Int) (ha1 : (-2147483648) ≤ a1 ∧ a1 ≤ 2147483647) (ha2 : (-2147483648) ≤ a2 ∧ a2 ≤ 2147483647) : ∃ r hₚ, gz_Ev ws0 tb 1000 (yX13_parse, cX13_parse, 3, (some .int)) [.inr (.inr (some 0)), .inl a1, .inl a2] (gr_sh ++ ext) (gr_h I J) r (gr_sh ++ ext) hₚ 0 0 ∧ (∃ (Iₚ : gr_I) (Jₚ : gr_J), hₚ = gr_h Iₚ Jₚ ∧ gq_St (n + 1) Iₚ ∧ (gq_T 0 I J Iₚ Jₚ ∧ ∀ k, Iₚ 56 k = I 56 k) ∧ (∃ z : Int, r = some (.inl z) ∧ (-2147483648) ≤ z ∧ z ≤ 2147483647 ∧ (((0 ≤ a1 ∧ a1 < I 0 1) ∧ (0 ≤ a2 ∧ a2 < I 0 2)) → Iₚ 0 68 = 0) ∧ (¬ ((0 ≤ a1 ∧ a1 < I 0 1) ∧ (0 ≤ a2 ∧ a2 < I 0 2)) → Iₚ 0 68 = I 0 68))) := by
  obtain ⟨⟨hI, KTM, KVF, KGR, KTO, KFM, KFV, KPL, KOX⟩, KLE, b1, b2, b3, b4, b5⟩ := h
  have rt := (gr_b_0_68 hI)
  obtain ⟨r, h1, E, P⟩ := r_parse_t (ws0 := ws0) (tb := tb) hws htb ext I J hI a1 a2 ha1 ha2  KGR KFV
  obtain ⟨Iₚ, Jₚ, e1, hIₚ, F, G, KGR', KFV', ⟨z, hr, q⟩⟩ := P
  have KTM' := gr_TM_fr KTM (fun k => F 52 k rfl) (fun k => F 53 k rfl) (fun k => F 54 k rfl) (F 0 64 rfl)
  have KVF' := gr_VF_fr KVF (fun k => F 14 k rfl) (fun k => F 13 k rfl)
  have KTO' := gr_TO_fr KTO (fun k => F 52 k rfl) (fun k => F 53 k rfl) (fun k => F 54 k rfl) (fun k => F 55 k rfl) (fun k => F 6 k rfl) (F 0 64 rfl) (F 0 3 rfl)
  have KFM' := gr_FM_fr KFM (fun k => F 10 k rfl) (fun k => F 55 k rfl) (fun k => F 52 k rfl) (fun k => F 53 k rfl) (fun k => F 54 k rfl) (F 0 64 rfl) (F 0 3 rfl)
  have KPL' := gr_PL_fr KPL (fun k => F 114 k rfl) (fun k => F 115 k rfl) (fun k => F 6 k rfl) (F 0 3 rfl)
  have KOX' := gr_OX_fr KOX (fun k => F 121 k rfl) (fun k => F 120 k rfl)
  have e59 := F 0 59 rfl
  have e42 := F 0 42 rfl
  have e64 := F 0 64 rfl
  have e100 := F 0 100 rfl
  have eC := F 0 206 rfl
  have KLE' : gr_LE (20 * ((n + 1 : Nat) : Int)) Iₚ := gr_LE_tp KLE (fun k => F 19 k rfl) (by omega)
  exact ⟨r, h1, gz_Ev_mono (d := 13) (by decide) E, Iₚ, Jₚ, e1, ⟨⟨hIₚ, KTM', KVF', KGR', KTO', KFM', KFV', KPL', KOX'⟩, KLE', by omega, by omega, by omega, by omega, by omega⟩, ⟨gq_Tok F G q.2.2.2.2 (by decide) (by decide) ⟨fun _ => ⟨F 0 132 rfl, F 0 133 rfl, fun k => F 80 k rfl⟩, fun _ => ⟨F 0 136 rfl, F 0 137 rfl, F 0 138 rfl, fun k => F 81 k rfl, fun k => F 82 k rfl⟩, fun _ => ⟨F 0 211 rfl, fun k => F 132 k rfl, fun k => F 133 k rfl⟩⟩, fun k => F 56 k rfl⟩, ⟨z, hr, by omega, by omega, by omega, by omega⟩⟩
set_option maxHeartbeats 8000000 in
set_option maxRecDepth 100000 in
theorem q_trees {ws0 : List Cond} {tb : String → gz_T} (hws : ∀ w ∈ gr_ws, w ∈ ws0) (htb : tb RX13 = gr_T) (ext : gz_Sh) {n : Nat} {I : gr_I} {J : gr_J} (h : gq_St n I) (hn : n < 64)   : ∃ r hₚ, gz_Ev ws0 tb 1000 (yX13_trees, cX13_trees, 1, (some .long)) [.inr (.inr (some 0))] (gr_sh ++ ext) (gr_h I J) r (gr_sh ++ ext) hₚ 0 0 ∧ (∃ (Iₚ : gr_I) (Jₚ : gr_J), hₚ = gr_h Iₚ Jₚ ∧ gq_St (n + 1) Iₚ ∧ (gq_T 0 I J Iₚ Jₚ ∧ ∀ k, Iₚ 56 k = I 56 k) ∧ (∃ z : Int64, r = some (.inr (.inl z)) ∧ (Iₚ 0 68 = I 0 68))) := by
  obtain ⟨⟨hI, KTM, KVF, KGR, KTO, KFM, KFV, KPL, KOX⟩, KLE, b1, b2, b3, b4, b5⟩ := h
  have rt := (gr_b_0_68 hI)
  obtain ⟨r, h1, E, P⟩ := r_trees (ws0 := ws0) (tb := tb) hws htb ext I J hI    
  obtain ⟨Iₚ, Jₚ, e1, hIₚ, F, G, ⟨z, hr⟩⟩ := P
  have KTM' := gr_TM_fr KTM (fun k => F 52 k rfl) (fun k => F 53 k rfl) (fun k => F 54 k rfl) (F 0 64 rfl)
  have KVF' := gr_VF_fr KVF (fun k => F 14 k rfl) (fun k => F 13 k rfl)
  have KGR' := gr_GR_fr KGR (fun k => F 19 k rfl) (fun k => F 18 k rfl) (fun k => F 36 k rfl) (fun k => F 41 k rfl) (fun k => F 42 k rfl) (fun k => F 43 k rfl) (fun k => F 45 k rfl) (fun k => F 46 k rfl) (fun k => F 47 k rfl) (fun k => F 6 k rfl) (fun k => F 7 k rfl) (fun k => F 8 k rfl) (F 0 3 rfl)
  have KTO' := gr_TO_fr KTO (fun k => F 52 k rfl) (fun k => F 53 k rfl) (fun k => F 54 k rfl) (fun k => F 55 k rfl) (fun k => F 6 k rfl) (F 0 64 rfl) (F 0 3 rfl)
  have KFM' := gr_FM_fr KFM (fun k => F 10 k rfl) (fun k => F 55 k rfl) (fun k => F 52 k rfl) (fun k => F 53 k rfl) (fun k => F 54 k rfl) (F 0 64 rfl) (F 0 3 rfl)
  have KFV' := gr_FV_fr KFV (fun k => F 87 k rfl) (fun k => F 88 k rfl) (fun k => F 104 k rfl) (fun k => F 90 k rfl) (fun k => F 91 k rfl) (fun k => F 92 k rfl) (fun k => F 94 k rfl) (fun k => F 95 k rfl) (fun k => F 97 k rfl) (fun k => F 98 k rfl) (fun k => F 19 k rfl) (fun k => F 18 k rfl) (fun k => F 41 k rfl) (fun k => F 6 k rfl) (fun k => F 99 k rfl) (fun k => F 105 k rfl) (fun k => F 107 k rfl) (fun k => F 108 k rfl) (fun k => F 110 k rfl) (fun k => F 111 k rfl) (F 0 157 rfl) (F 0 158 rfl) (F 0 177 rfl) (F 0 186 rfl) (F 0 159 rfl) hI
  have KPL' := gr_PL_fr KPL (fun k => F 114 k rfl) (fun k => F 115 k rfl) (fun k => F 6 k rfl) (F 0 3 rfl)
  have KOX' := gr_OX_fr KOX (fun k => F 121 k rfl) (fun k => F 120 k rfl)
  have e59 := F 0 59 rfl
  have e42 := F 0 42 rfl
  have e64 := F 0 64 rfl
  have e100 := F 0 100 rfl
  have eC := F 0 206 rfl
  have eT := F 0 68 rfl
  have KLE' : gr_LE (20 * ((n + 1 : Nat) : Int)) Iₚ := gr_LE_tp KLE (fun k => F 19 k rfl) (by omega)
  exact ⟨r, h1, gz_Ev_mono (d := 1) (by decide) E, Iₚ, Jₚ, e1, ⟨⟨hIₚ, KTM', KVF', KGR', KTO', KFM', KFV', KPL', KOX'⟩, KLE', by omega, by omega, by omega, by omega, by omega⟩, ⟨gq_Tof F G (by decide) (by decide) (by decide) ⟨fun _ => ⟨F 0 132 rfl, F 0 133 rfl, fun k => F 80 k rfl⟩, fun _ => ⟨F 0 136 rfl, F 0 137 rfl, F 0 138 rfl, fun k => F 81 k rfl, fun k => F 82 k rfl⟩, fun _ => ⟨F 0 211 rfl, fun k => F 132 k rfl, fun k => F 133 k rfl⟩⟩, fun k => F 56 k rfl⟩, ⟨z, hr, eT⟩⟩
set_option maxHeartbeats 8000000 in
set_option maxRecDepth 100000 in
theorem q_bar {ws0 : List Cond} {tb : String → gz_T} (hws : ∀ w ∈ gr_ws, w ∈ ws0) (htb : tb RX13 = gr_T) (ext : gz_Sh) {n : Nat} {I : gr_I} {J : gr_J} (h : gq_St n I) (hn : n < 64) (a1 : Int) (a2 : Int) (ha1 : (-2147483648) ≤ a1 ∧ a1 ≤ 2147483647) (ha2 : 0 ≤ a2 ∧ a2 ≤ 1) : ∃ r hₚ, gz_Ev ws0 tb 1000 (yX13_bar, cX13_bar, 3, (some .long)) [.inr (.inr (some 0)), .inl a1, .inl a2] (gr_sh ++ ext) (gr_h I J) r (gr_sh ++ ext) hₚ 0 0 ∧ (∃ (Iₚ : gr_I) (Jₚ : gr_J), hₚ = gr_h Iₚ Jₚ ∧ gq_St (n + 1) Iₚ ∧ (gq_T 0 I J Iₚ Jₚ ∧ ∀ k, Iₚ 56 k = I 56 k) ∧ (∃ z : Int64, r = some (.inr (.inl z)) ∧ (Iₚ 0 68 = I 0 68))) := by
  obtain ⟨⟨hI, KTM, KVF, KGR, KTO, KFM, KFV, KPL, KOX⟩, KLE, b1, b2, b3, b4, b5⟩ := h
  have rt := (gr_b_0_68 hI)
  obtain ⟨r, h1, E, P⟩ := r_bar (ws0 := ws0) (tb := tb) hws htb ext I J hI a1 a2 ha1 ha2  KGR KFV
  obtain ⟨Iₚ, Jₚ, e1, hIₚ, F, G, KGR', KFV', ⟨z, hr⟩⟩ := P
  have KTM' := gr_TM_fr KTM (fun k => F 52 k rfl) (fun k => F 53 k rfl) (fun k => F 54 k rfl) (F 0 64 rfl)
  have KVF' := gr_VF_fr KVF (fun k => F 14 k rfl) (fun k => F 13 k rfl)
  have KTO' := gr_TO_fr KTO (fun k => F 52 k rfl) (fun k => F 53 k rfl) (fun k => F 54 k rfl) (fun k => F 55 k rfl) (fun k => F 6 k rfl) (F 0 64 rfl) (F 0 3 rfl)
  have KFM' := gr_FM_fr KFM (fun k => F 10 k rfl) (fun k => F 55 k rfl) (fun k => F 52 k rfl) (fun k => F 53 k rfl) (fun k => F 54 k rfl) (F 0 64 rfl) (F 0 3 rfl)
  have KPL' := gr_PL_fr KPL (fun k => F 114 k rfl) (fun k => F 115 k rfl) (fun k => F 6 k rfl) (F 0 3 rfl)
  have KOX' := gr_OX_fr KOX (fun k => F 121 k rfl) (fun k => F 120 k rfl)
  have e59 := F 0 59 rfl
  have e42 := F 0 42 rfl
  have e64 := F 0 64 rfl
  have e100 := F 0 100 rfl
  have eC := F 0 206 rfl
  have eT := F 0 68 rfl
  have KLE' : gr_LE (20 * ((n + 1 : Nat) : Int)) Iₚ := gr_LE_tp KLE (fun k => F 19 k rfl) (by omega)
  exact ⟨r, h1, gz_Ev_mono (d := 9) (by decide) E, Iₚ, Jₚ, e1, ⟨⟨hIₚ, KTM', KVF', KGR', KTO', KFM', KFV', KPL', KOX'⟩, KLE', by omega, by omega, by omega, by omega, by omega⟩, ⟨gq_Tof F G (by decide) (by decide) (by decide) ⟨fun _ => ⟨F 0 132 rfl, F 0 133 rfl, fun k => F 80 k rfl⟩, fun _ => ⟨F 0 136 rfl, F 0 137 rfl, F 0 138 rfl, fun k => F 81 k rfl, fun k => F 82 k rfl⟩, fun _ => ⟨F 0 211 rfl, fun k => F 132 k rfl, fun k => F 133 k rfl⟩⟩, fun k => F 56 k rfl⟩, ⟨z, hr, eT⟩⟩
set_option maxHeartbeats 8000000 in
set_option maxRecDepth 100000 in
theorem q_price {ws0 : List Cond} {tb : String → gz_T} (hws : ∀ w ∈ gr_ws, w ∈ ws0) (htb : tb RX13 = gr_T) (ext : gz_Sh) {n : Nat} {I : gr_I} {J : gr_J} (h : gq_St n I) (hn : n < 64) (a1 : Int) (ha1 : (-2147483648) ≤ a1 ∧ a1 ≤ 2147483647) : ∃ r hₚ, gz_Ev ws0 tb 1000 (yX13_price, cX13_price, 2, (some .int)) [.inr (.inr (some 0)), .inl a1] (gr_sh ++ ext) (gr_h I J) r (gr_sh ++ ext) hₚ 0 0 ∧ (∃ (Iₚ : gr_I) (Jₚ : gr_J), hₚ = gr_h Iₚ Jₚ ∧ gq_St (n + 1) Iₚ ∧ (gq_T 0 I J Iₚ Jₚ ∧ ∀ k, Iₚ 56 k = I 56 k) ∧ (∃ z : Int, r = some (.inl z) ∧ (-2147483648) ≤ z ∧ z ≤ 2147483647 ∧ (Iₚ 0 68 = I 0 68))) := by
  obtain ⟨⟨hI, KTM, KVF, KGR, KTO, KFM, KFV, KPL, KOX⟩, KLE, b1, b2, b3, b4, b5⟩ := h
  have rt := (gr_b_0_68 hI)
  obtain ⟨r, h1, E, P⟩ := r_price (ws0 := ws0) (tb := tb) hws htb ext I J hI a1 ha1  
  obtain ⟨Iₚ, Jₚ, e1, hIₚ, F, G, ⟨z, hr, q⟩⟩ := P
  have KTM' := gr_TM_fr KTM (fun k => F 52 k rfl) (fun k => F 53 k rfl) (fun k => F 54 k rfl) (F 0 64 rfl)
  have KVF' := gr_VF_fr KVF (fun k => F 14 k rfl) (fun k => F 13 k rfl)
  have KGR' := gr_GR_fr KGR (fun k => F 19 k rfl) (fun k => F 18 k rfl) (fun k => F 36 k rfl) (fun k => F 41 k rfl) (fun k => F 42 k rfl) (fun k => F 43 k rfl) (fun k => F 45 k rfl) (fun k => F 46 k rfl) (fun k => F 47 k rfl) (fun k => F 6 k rfl) (fun k => F 7 k rfl) (fun k => F 8 k rfl) (F 0 3 rfl)
  have KTO' := gr_TO_fr KTO (fun k => F 52 k rfl) (fun k => F 53 k rfl) (fun k => F 54 k rfl) (fun k => F 55 k rfl) (fun k => F 6 k rfl) (F 0 64 rfl) (F 0 3 rfl)
  have KFM' := gr_FM_fr KFM (fun k => F 10 k rfl) (fun k => F 55 k rfl) (fun k => F 52 k rfl) (fun k => F 53 k rfl) (fun k => F 54 k rfl) (F 0 64 rfl) (F 0 3 rfl)
  have KFV' := gr_FV_fr KFV (fun k => F 87 k rfl) (fun k => F 88 k rfl) (fun k => F 104 k rfl) (fun k => F 90 k rfl) (fun k => F 91 k rfl) (fun k => F 92 k rfl) (fun k => F 94 k rfl) (fun k => F 95 k rfl) (fun k => F 97 k rfl) (fun k => F 98 k rfl) (fun k => F 19 k rfl) (fun k => F 18 k rfl) (fun k => F 41 k rfl) (fun k => F 6 k rfl) (fun k => F 99 k rfl) (fun k => F 105 k rfl) (fun k => F 107 k rfl) (fun k => F 108 k rfl) (fun k => F 110 k rfl) (fun k => F 111 k rfl) (F 0 157 rfl) (F 0 158 rfl) (F 0 177 rfl) (F 0 186 rfl) (F 0 159 rfl) hI
  have KPL' := gr_PL_fr KPL (fun k => F 114 k rfl) (fun k => F 115 k rfl) (fun k => F 6 k rfl) (F 0 3 rfl)
  have KOX' := gr_OX_fr KOX (fun k => F 121 k rfl) (fun k => F 120 k rfl)
  have e59 := F 0 59 rfl
  have e42 := F 0 42 rfl
  have e64 := F 0 64 rfl
  have e100 := F 0 100 rfl
  have eC := F 0 206 rfl
  have eT := F 0 68 rfl
  have KLE' : gr_LE (20 * ((n + 1 : Nat) : Int)) Iₚ := gr_LE_tp KLE (fun k => F 19 k rfl) (by omega)
  exact ⟨r, h1, gz_Ev_mono (d := 1) (by decide) E, Iₚ, Jₚ, e1, ⟨⟨hIₚ, KTM', KVF', KGR', KTO', KFM', KFV', KPL', KOX'⟩, KLE', by omega, by omega, by omega, by omega, by omega⟩, ⟨gq_Tof F G (by decide) (by decide) (by decide) ⟨fun _ => ⟨F 0 132 rfl, F 0 133 rfl, fun k => F 80 k rfl⟩, fun _ => ⟨F 0 136 rfl, F 0 137 rfl, F 0 138 rfl, fun k => F 81 k rfl, fun k => F 82 k rfl⟩, fun _ => ⟨F 0 211 rfl, fun k => F 132 k rfl, fun k => F 133 k rfl⟩⟩, fun k => F 56 k rfl⟩, ⟨z, hr, by omega, by omega, eT⟩⟩
set_option maxHeartbeats 8000000 in
set_option maxRecDepth 100000 in
theorem q_reading {ws0 : List Cond} {tb : String → gz_T} (hws : ∀ w ∈ gr_ws, w ∈ ws0) (htb : tb RX13 = gr_T) (ext : gz_Sh) {n : Nat} {I : gr_I} {J : gr_J} (h : gq_St n I) (hn : n < 64) (a1 : Int) (a2 : Int) (ha1 : (-2147483648) ≤ a1 ∧ a1 ≤ 2147483647) (ha2 : (-2147483648) ≤ a2 ∧ a2 ≤ 2147483647) : ∃ r hₚ, gz_Ev ws0 tb 1000 (yX13_reading, cX13_reading, 4, (some .int)) [.inr (.inr (some 0)), .inl a1, .inl a2] (gr_sh ++ ext) (gr_h I J) r (gr_sh ++ ext) hₚ 0 0 ∧ (∃ (Iₚ : gr_I) (Jₚ : gr_J), hₚ = gr_h Iₚ Jₚ ∧ gq_St (n + 1) Iₚ ∧ (gq_T 0 I J Iₚ Jₚ ∧ ∀ k, Iₚ 56 k = I 56 k) ∧ (∃ z : Int, r = some (.inl z) ∧ (-2147483648) ≤ z ∧ z ≤ 2147483647 ∧ (Iₚ 0 68 = I 0 68))) := by
  obtain ⟨⟨hI, KTM, KVF, KGR, KTO, KFM, KFV, KPL, KOX⟩, KLE, b1, b2, b3, b4, b5⟩ := h
  have rt := (gr_b_0_68 hI)
  obtain ⟨r, h1, E, P⟩ := r_reading (ws0 := ws0) (tb := tb) hws htb ext I J hI a1 a2 ha1 ha2  KGR KFV KPL
  obtain ⟨Iₚ, Jₚ, e1, hIₚ, F, G, KGR', KFV', KPL', ⟨z, hr, q⟩⟩ := P
  have KTM' := gr_TM_fr KTM (fun k => F 52 k rfl) (fun k => F 53 k rfl) (fun k => F 54 k rfl) (F 0 64 rfl)
  have KVF' := gr_VF_fr KVF (fun k => F 14 k rfl) (fun k => F 13 k rfl)
  have KTO' := gr_TO_fr KTO (fun k => F 52 k rfl) (fun k => F 53 k rfl) (fun k => F 54 k rfl) (fun k => F 55 k rfl) (fun k => F 6 k rfl) (F 0 64 rfl) (F 0 3 rfl)
  have KFM' := gr_FM_fr KFM (fun k => F 10 k rfl) (fun k => F 55 k rfl) (fun k => F 52 k rfl) (fun k => F 53 k rfl) (fun k => F 54 k rfl) (F 0 64 rfl) (F 0 3 rfl)
  have KOX' := gr_OX_fr KOX (fun k => F 121 k rfl) (fun k => F 120 k rfl)
  have e59 := F 0 59 rfl
  have e42 := F 0 42 rfl
  have e64 := F 0 64 rfl
  have e100 := F 0 100 rfl
  have eC := F 0 206 rfl
  have eT := F 0 68 rfl
  have KLE' : gr_LE (20 * ((n + 1 : Nat) : Int)) Iₚ := gr_LE_tp KLE (fun k => F 19 k rfl) (by omega)
  exact ⟨r, h1, gz_Ev_mono (d := 801) (by decide) E, Iₚ, Jₚ, e1, ⟨⟨hIₚ, KTM', KVF', KGR', KTO', KFM', KFV', KPL', KOX'⟩, KLE', by omega, by omega, by omega, by omega, by omega⟩, ⟨gq_Tof F G (by decide) (by decide) (by decide) ⟨fun _ => ⟨F 0 132 rfl, F 0 133 rfl, fun k => F 80 k rfl⟩, fun _ => ⟨F 0 136 rfl, F 0 137 rfl, F 0 138 rfl, fun k => F 81 k rfl, fun k => F 82 k rfl⟩, fun _ => ⟨F 0 211 rfl, fun k => F 132 k rfl, fun k => F 133 k rfl⟩⟩, fun k => F 56 k rfl⟩, ⟨z, hr, by omega, by omega, eT⟩⟩
set_option maxHeartbeats 8000000 in
set_option maxRecDepth 100000 in
theorem q_tree {ws0 : List Cond} {tb : String → gz_T} (hws : ∀ w ∈ gr_ws, w ∈ ws0) (htb : tb RX13 = gr_T) (ext : gz_Sh) {n : Nat} {I : gr_I} {J : gr_J} (h : gq_St n I) (hn : n < 64) (a1 : Int) (ha1 : (-2147483648) ≤ a1 ∧ a1 ≤ 2147483647) : ∃ r hₚ, gz_Ev ws0 tb 1000 (yX13_tree, cX13_tree, 3, (some .int)) [.inr (.inr (some 0)), .inl a1] (gr_sh ++ ext) (gr_h I J) r (gr_sh ++ ext) hₚ 0 0 ∧ (∃ (Iₚ : gr_I) (Jₚ : gr_J), hₚ = gr_h Iₚ Jₚ ∧ gq_St (n + 1) Iₚ ∧ (gq_T 0 I J Iₚ Jₚ ∧ ∀ k, Iₚ 56 k = I 56 k) ∧ (∃ z : Int, r = some (.inl z) ∧ (-2147483648) ≤ z ∧ z ≤ 2147483647 ∧ ((0 ≤ a1 ∧ a1 ≤ 7) → Iₚ 0 68 = 0) ∧ (¬ (0 ≤ a1 ∧ a1 ≤ 7) → Iₚ 0 68 = I 0 68))) := by
  obtain ⟨⟨hI, KTM, KVF, KGR, KTO, KFM, KFV, KPL, KOX⟩, KLE, b1, b2, b3, b4, b5⟩ := h
  have rt := (gr_b_0_68 hI)
  obtain ⟨r, h1, E, P⟩ := r_tree_t (ws0 := ws0) (tb := tb) hws htb ext I J hI a1 ha1  KPL
  obtain ⟨Iₚ, Jₚ, e1, hIₚ, F, G, KPL', ⟨z, hr, q⟩⟩ := P
  have KTM' := gr_TM_fr KTM (fun k => F 52 k rfl) (fun k => F 53 k rfl) (fun k => F 54 k rfl) (F 0 64 rfl)
  have KVF' := gr_VF_fr KVF (fun k => F 14 k rfl) (fun k => F 13 k rfl)
  have KGR' := gr_GR_fr KGR (fun k => F 19 k rfl) (fun k => F 18 k rfl) (fun k => F 36 k rfl) (fun k => F 41 k rfl) (fun k => F 42 k rfl) (fun k => F 43 k rfl) (fun k => F 45 k rfl) (fun k => F 46 k rfl) (fun k => F 47 k rfl) (fun k => F 6 k rfl) (fun k => F 7 k rfl) (fun k => F 8 k rfl) (F 0 3 rfl)
  have KTO' := gr_TO_fr KTO (fun k => F 52 k rfl) (fun k => F 53 k rfl) (fun k => F 54 k rfl) (fun k => F 55 k rfl) (fun k => F 6 k rfl) (F 0 64 rfl) (F 0 3 rfl)
  have KFM' := gr_FM_fr KFM (fun k => F 10 k rfl) (fun k => F 55 k rfl) (fun k => F 52 k rfl) (fun k => F 53 k rfl) (fun k => F 54 k rfl) (F 0 64 rfl) (F 0 3 rfl)
  have KFV' := gr_FV_fr KFV (fun k => F 87 k rfl) (fun k => F 88 k rfl) (fun k => F 104 k rfl) (fun k => F 90 k rfl) (fun k => F 91 k rfl) (fun k => F 92 k rfl) (fun k => F 94 k rfl) (fun k => F 95 k rfl) (fun k => F 97 k rfl) (fun k => F 98 k rfl) (fun k => F 19 k rfl) (fun k => F 18 k rfl) (fun k => F 41 k rfl) (fun k => F 6 k rfl) (fun k => F 99 k rfl) (fun k => F 105 k rfl) (fun k => F 107 k rfl) (fun k => F 108 k rfl) (fun k => F 110 k rfl) (fun k => F 111 k rfl) (F 0 157 rfl) (F 0 158 rfl) (F 0 177 rfl) (F 0 186 rfl) (F 0 159 rfl) hI
  have KOX' := gr_OX_fr KOX (fun k => F 121 k rfl) (fun k => F 120 k rfl)
  have e59 := F 0 59 rfl
  have e42 := F 0 42 rfl
  have e64 := F 0 64 rfl
  have e100 := F 0 100 rfl
  have eC := F 0 206 rfl
  have KLE' : gr_LE (20 * ((n + 1 : Nat) : Int)) Iₚ := gr_LE_tp KLE (fun k => F 19 k rfl) (by omega)
  exact ⟨r, h1, gz_Ev_mono (d := 73) (by decide) E, Iₚ, Jₚ, e1, ⟨⟨hIₚ, KTM', KVF', KGR', KTO', KFM', KFV', KPL', KOX'⟩, KLE', by omega, by omega, by omega, by omega, by omega⟩, ⟨gq_Tof F G (by decide) (by decide) (by decide) ⟨fun _ => ⟨F 0 132 rfl, F 0 133 rfl, fun k => F 80 k rfl⟩, fun _ => ⟨F 0 136 rfl, F 0 137 rfl, F 0 138 rfl, fun k => F 81 k rfl, fun k => F 82 k rfl⟩, fun _ => ⟨F 0 211 rfl, fun k => F 132 k rfl, fun k => F 133 k rfl⟩⟩, fun k => F 56 k rfl⟩, ⟨z, hr, by omega, by omega, by omega, by omega⟩⟩
set_option maxHeartbeats 8000000 in
set_option maxRecDepth 100000 in
theorem q_show {ws0 : List Cond} {tb : String → gz_T} (hws : ∀ w ∈ gr_ws, w ∈ ws0) (htb : tb RX13 = gr_T) (ext : gz_Sh) {n : Nat} {I : gr_I} {J : gr_J} (h : gq_St n I) (hn : n < 64) (a1 : Int) (ha1 : (-2147483648) ≤ a1 ∧ a1 ≤ 2147483647) : ∃ r hₚ, gz_Ev ws0 tb 1000 (yX13_show, cX13_show, 2, (some .int)) [.inr (.inr (some 0)), .inl a1] (gr_sh ++ ext) (gr_h I J) r (gr_sh ++ ext) hₚ 0 0 ∧ (∃ (Iₚ : gr_I) (Jₚ : gr_J), hₚ = gr_h Iₚ Jₚ ∧ gq_St (n + 1) Iₚ ∧ (gq_T 0 I J Iₚ Jₚ ∧ ∀ k, Iₚ 56 k = I 56 k) ∧ (∃ z : Int, r = some (.inl z) ∧ (-2147483648) ≤ z ∧ z ≤ 2147483647 ∧ (Iₚ 0 68 = I 0 68))) := by
  obtain ⟨⟨hI, KTM, KVF, KGR, KTO, KFM, KFV, KPL, KOX⟩, KLE, b1, b2, b3, b4, b5⟩ := h
  have rt := (gr_b_0_68 hI)
  obtain ⟨r, h1, E, P⟩ := r_show (ws0 := ws0) (tb := tb) hws htb ext I J hI a1 ha1  KPL
  obtain ⟨Iₚ, Jₚ, e1, hIₚ, F, G, KPL', ⟨z, hr, q⟩⟩ := P
  have KTM' := gr_TM_fr KTM (fun k => F 52 k rfl) (fun k => F 53 k rfl) (fun k => F 54 k rfl) (F 0 64 rfl)
  have KVF' := gr_VF_fr KVF (fun k => F 14 k rfl) (fun k => F 13 k rfl)
  have KGR' := gr_GR_fr KGR (fun k => F 19 k rfl) (fun k => F 18 k rfl) (fun k => F 36 k rfl) (fun k => F 41 k rfl) (fun k => F 42 k rfl) (fun k => F 43 k rfl) (fun k => F 45 k rfl) (fun k => F 46 k rfl) (fun k => F 47 k rfl) (fun k => F 6 k rfl) (fun k => F 7 k rfl) (fun k => F 8 k rfl) (F 0 3 rfl)
  have KTO' := gr_TO_fr KTO (fun k => F 52 k rfl) (fun k => F 53 k rfl) (fun k => F 54 k rfl) (fun k => F 55 k rfl) (fun k => F 6 k rfl) (F 0 64 rfl) (F 0 3 rfl)
  have KFM' := gr_FM_fr KFM (fun k => F 10 k rfl) (fun k => F 55 k rfl) (fun k => F 52 k rfl) (fun k => F 53 k rfl) (fun k => F 54 k rfl) (F 0 64 rfl) (F 0 3 rfl)
  have KFV' := gr_FV_fr KFV (fun k => F 87 k rfl) (fun k => F 88 k rfl) (fun k => F 104 k rfl) (fun k => F 90 k rfl) (fun k => F 91 k rfl) (fun k => F 92 k rfl) (fun k => F 94 k rfl) (fun k => F 95 k rfl) (fun k => F 97 k rfl) (fun k => F 98 k rfl) (fun k => F 19 k rfl) (fun k => F 18 k rfl) (fun k => F 41 k rfl) (fun k => F 6 k rfl) (fun k => F 99 k rfl) (fun k => F 105 k rfl) (fun k => F 107 k rfl) (fun k => F 108 k rfl) (fun k => F 110 k rfl) (fun k => F 111 k rfl) (F 0 157 rfl) (F 0 158 rfl) (F 0 177 rfl) (F 0 186 rfl) (F 0 159 rfl) hI
  have KOX' := gr_OX_fr KOX (fun k => F 121 k rfl) (fun k => F 120 k rfl)
  have e59 := F 0 59 rfl
  have e42 := F 0 42 rfl
  have e64 := F 0 64 rfl
  have e100 := F 0 100 rfl
  have eC := F 0 206 rfl
  have eT := F 0 68 rfl
  have KLE' : gr_LE (20 * ((n + 1 : Nat) : Int)) Iₚ := gr_LE_tp KLE (fun k => F 19 k rfl) (by omega)
  exact ⟨r, h1, gz_Ev_mono (d := 64) (by decide) E, Iₚ, Jₚ, e1, ⟨⟨hIₚ, KTM', KVF', KGR', KTO', KFM', KFV', KPL', KOX'⟩, KLE', by omega, by omega, by omega, by omega, by omega⟩, ⟨gq_Tof F G (by decide) (by decide) (by decide) ⟨fun _ => ⟨F 0 132 rfl, F 0 133 rfl, fun k => F 80 k rfl⟩, fun _ => ⟨F 0 136 rfl, F 0 137 rfl, F 0 138 rfl, fun k => F 81 k rfl, fun k => F 82 k rfl⟩, fun _ => ⟨F 0 211 rfl, fun k => F 132 k rfl, fun k => F 133 k rfl⟩⟩, fun k => F 56 k rfl⟩, ⟨z, hr, by omega, by omega, eT⟩⟩
set_option maxHeartbeats 8000000 in
set_option maxRecDepth 100000 in
theorem q_same {ws0 : List Cond} {tb : String → gz_T} (hws : ∀ w ∈ gr_ws, w ∈ ws0) (htb : tb RX13 = gr_T) (ext : gz_Sh) {n : Nat} {I : gr_I} {J : gr_J} (h : gq_St n I) (hn : n < 64) (a1 : Int) (a2 : Int) (ha1 : (-2147483648) ≤ a1 ∧ a1 ≤ 2147483647) (ha2 : (-2147483648) ≤ a2 ∧ a2 ≤ 2147483647) : ∃ r hₚ, gz_Ev ws0 tb 1000 (yX13_same, cX13_same, 4, (some .boolean)) [.inr (.inr (some 0)), .inl a1, .inl a2] (gr_sh ++ ext) (gr_h I J) r (gr_sh ++ ext) hₚ 0 0 ∧ (∃ (Iₚ : gr_I) (Jₚ : gr_J), hₚ = gr_h Iₚ Jₚ ∧ gq_St (n + 1) Iₚ ∧ (gq_T 0 I J Iₚ Jₚ ∧ ∀ k, Iₚ 56 k = I 56 k) ∧ (∃ z : Int, r = some (.inl z) ∧ 0 ≤ z ∧ z ≤ 1 ∧ (Iₚ 0 68 = I 0 68))) := by
  obtain ⟨⟨hI, KTM, KVF, KGR, KTO, KFM, KFV, KPL, KOX⟩, KLE, b1, b2, b3, b4, b5⟩ := h
  have rt := (gr_b_0_68 hI)
  obtain ⟨r, h1, E, P⟩ := r_same (ws0 := ws0) (tb := tb) hws htb ext I J hI a1 a2 ha1 ha2  
  obtain ⟨Iₚ, Jₚ, e1, hIₚ, F, G, ⟨z, hr, q⟩⟩ := P
  have KTM' := gr_TM_fr KTM (fun k => F 52 k rfl) (fun k => F 53 k rfl) (fun k => F 54 k rfl) (F 0 64 rfl)
  have KVF' := gr_VF_fr KVF (fun k => F 14 k rfl) (fun k => F 13 k rfl)
  have KGR' := gr_GR_fr KGR (fun k => F 19 k rfl) (fun k => F 18 k rfl) (fun k => F 36 k rfl) (fun k => F 41 k rfl) (fun k => F 42 k rfl) (fun k => F 43 k rfl) (fun k => F 45 k rfl) (fun k => F 46 k rfl) (fun k => F 47 k rfl) (fun k => F 6 k rfl) (fun k => F 7 k rfl) (fun k => F 8 k rfl) (F 0 3 rfl)
  have KTO' := gr_TO_fr KTO (fun k => F 52 k rfl) (fun k => F 53 k rfl) (fun k => F 54 k rfl) (fun k => F 55 k rfl) (fun k => F 6 k rfl) (F 0 64 rfl) (F 0 3 rfl)
  have KFM' := gr_FM_fr KFM (fun k => F 10 k rfl) (fun k => F 55 k rfl) (fun k => F 52 k rfl) (fun k => F 53 k rfl) (fun k => F 54 k rfl) (F 0 64 rfl) (F 0 3 rfl)
  have KFV' := gr_FV_fr KFV (fun k => F 87 k rfl) (fun k => F 88 k rfl) (fun k => F 104 k rfl) (fun k => F 90 k rfl) (fun k => F 91 k rfl) (fun k => F 92 k rfl) (fun k => F 94 k rfl) (fun k => F 95 k rfl) (fun k => F 97 k rfl) (fun k => F 98 k rfl) (fun k => F 19 k rfl) (fun k => F 18 k rfl) (fun k => F 41 k rfl) (fun k => F 6 k rfl) (fun k => F 99 k rfl) (fun k => F 105 k rfl) (fun k => F 107 k rfl) (fun k => F 108 k rfl) (fun k => F 110 k rfl) (fun k => F 111 k rfl) (F 0 157 rfl) (F 0 158 rfl) (F 0 177 rfl) (F 0 186 rfl) (F 0 159 rfl) hI
  have KPL' := gr_PL_fr KPL (fun k => F 114 k rfl) (fun k => F 115 k rfl) (fun k => F 6 k rfl) (F 0 3 rfl)
  have KOX' := gr_OX_fr KOX (fun k => F 121 k rfl) (fun k => F 120 k rfl)
  have e59 := F 0 59 rfl
  have e42 := F 0 42 rfl
  have e64 := F 0 64 rfl
  have e100 := F 0 100 rfl
  have eC := F 0 206 rfl
  have eT := F 0 68 rfl
  have KLE' : gr_LE (20 * ((n + 1 : Nat) : Int)) Iₚ := gr_LE_tp KLE (fun k => F 19 k rfl) (by omega)
  exact ⟨r, h1, gz_Ev_mono (d := 1) (by decide) E, Iₚ, Jₚ, e1, ⟨⟨hIₚ, KTM', KVF', KGR', KTO', KFM', KFV', KPL', KOX'⟩, KLE', by omega, by omega, by omega, by omega, by omega⟩, ⟨gq_Tof F G (by decide) (by decide) (by decide) ⟨fun _ => ⟨F 0 132 rfl, F 0 133 rfl, fun k => F 80 k rfl⟩, fun _ => ⟨F 0 136 rfl, F 0 137 rfl, F 0 138 rfl, fun k => F 81 k rfl, fun k => F 82 k rfl⟩, fun _ => ⟨F 0 211 rfl, fun k => F 132 k rfl, fun k => F 133 k rfl⟩⟩, fun k => F 56 k rfl⟩, ⟨z, hr, by omega, by omega, eT⟩⟩
set_option maxHeartbeats 8000000 in
set_option maxRecDepth 100000 in
theorem q_say {ws0 : List Cond} {tb : String → gz_T} (hws : ∀ w ∈ gr_ws, w ∈ ws0) (htb : tb RX13 = gr_T) (ext : gz_Sh) {n : Nat} {I : gr_I} {J : gr_J} (h : gq_St n I) (hn : n < 64) (a1 : Int) (a2 : Int) (a3 : Int) (ha1 : (-2147483648) ≤ a1 ∧ a1 ≤ 2147483647) (ha2 : (-2147483648) ≤ a2 ∧ a2 ≤ 2147483647) (ha3 : (-2147483648) ≤ a3 ∧ a3 ≤ 2147483647) : ∃ r hₚ, gz_Ev ws0 tb 1000 (yX13_say, cX13_say, 6, (some .int)) [.inr (.inr (some 0)), .inl a1, .inl a2, .inl a3] (gr_sh ++ ext) (gr_h I J) r (gr_sh ++ ext) hₚ 0 0 ∧ (∃ (Iₚ : gr_I) (Jₚ : gr_J), hₚ = gr_h Iₚ Jₚ ∧ gq_St (n + 1) Iₚ ∧ (gq_T 0 I J Iₚ Jₚ ∧ ∀ k, Iₚ 56 k = I 56 k) ∧ (∃ z : Int, r = some (.inl z) ∧ (-2147483648) ≤ z ∧ z ≤ 2147483647 ∧ (Iₚ 0 68 = I 0 68))) := by
  obtain ⟨⟨hI, KTM, KVF, KGR, KTO, KFM, KFV, KPL, KOX⟩, KLE, b1, b2, b3, b4, b5⟩ := h
  have rt := (gr_b_0_68 hI)
  obtain ⟨r, h1, E, P⟩ := r_say (ws0 := ws0) (tb := tb) hws htb ext I J hI a1 a2 a3 ha1 ha2 ha3  KGR KFV KPL KOX
  obtain ⟨Iₚ, Jₚ, e1, hIₚ, F, G, KGR', KFV', KPL', KOX', ⟨z, hr, q⟩⟩ := P
  have KTM' := gr_TM_fr KTM (fun k => F 52 k rfl) (fun k => F 53 k rfl) (fun k => F 54 k rfl) (F 0 64 rfl)
  have KVF' := gr_VF_fr KVF (fun k => F 14 k rfl) (fun k => F 13 k rfl)
  have KTO' := gr_TO_fr KTO (fun k => F 52 k rfl) (fun k => F 53 k rfl) (fun k => F 54 k rfl) (fun k => F 55 k rfl) (fun k => F 6 k rfl) (F 0 64 rfl) (F 0 3 rfl)
  have KFM' := gr_FM_fr KFM (fun k => F 10 k rfl) (fun k => F 55 k rfl) (fun k => F 52 k rfl) (fun k => F 53 k rfl) (fun k => F 54 k rfl) (F 0 64 rfl) (F 0 3 rfl)
  have e59 := F 0 59 rfl
  have e42 := F 0 42 rfl
  have e64 := F 0 64 rfl
  have e100 := F 0 100 rfl
  have eC := F 0 206 rfl
  have eT := F 0 68 rfl
  have KLE' : gr_LE (20 * ((n + 1 : Nat) : Int)) Iₚ := gr_LE_tp KLE (fun k => F 19 k rfl) (by omega)
  exact ⟨r, h1, gz_Ev_mono (d := 71) (by decide) E, Iₚ, Jₚ, e1, ⟨⟨hIₚ, KTM', KVF', KGR', KTO', KFM', KFV', KPL', KOX'⟩, KLE', by omega, by omega, by omega, by omega, by omega⟩, ⟨gq_Tok F G q.2.2 (by decide) (by decide) ⟨fun _ => ⟨F 0 132 rfl, F 0 133 rfl, fun k => F 80 k rfl⟩, fun _ => ⟨F 0 136 rfl, F 0 137 rfl, F 0 138 rfl, fun k => F 81 k rfl, fun k => F 82 k rfl⟩, fun _ => ⟨F 0 211 rfl, fun k => F 132 k rfl, fun k => F 133 k rfl⟩⟩, fun k => F 56 k rfl⟩, ⟨z, hr, by omega, by omega, eT⟩⟩
set_option maxHeartbeats 8000000 in
set_option maxRecDepth 100000 in
theorem q_swap {ws0 : List Cond} {tb : String → gz_T} (hws : ∀ w ∈ gr_ws, w ∈ ws0) (htb : tb RX13 = gr_T) (ext : gz_Sh) {n : Nat} {I : gr_I} {J : gr_J} (h : gq_St n I) (hn : n < 64) (a1 : Int) (a2 : Int) (a3 : Int) (ha1 : (-2147483648) ≤ a1 ∧ a1 ≤ 2147483647) (ha2 : (-2147483648) ≤ a2 ∧ a2 ≤ 2147483647) (ha3 : (-2147483648) ≤ a3 ∧ a3 ≤ 2147483647) : ∃ r hₚ, gz_Ev ws0 tb 1000 (yX13_swap, cX13_swap, 9, (some .int)) [.inr (.inr (some 0)), .inl a1, .inl a2, .inl a3] (gr_sh ++ ext) (gr_h I J) r (gr_sh ++ ext) hₚ 0 0 ∧ (∃ (Iₚ : gr_I) (Jₚ : gr_J), hₚ = gr_h Iₚ Jₚ ∧ gq_St (n + 1) Iₚ ∧ (gq_T 0 I J Iₚ Jₚ ∧ ∀ k, Iₚ 56 k = I 56 k) ∧ (∃ z : Int, r = some (.inl z) ∧ (-2147483648) ≤ z ∧ z ≤ 2147483647 ∧ (((0 ≤ a1 ∧ a1 < I 0 1) ∧ (0 ≤ a2 ∧ a2 < I 0 2) ∧ (0 ≤ a3 ∧ a3 < I 0 1)) → Iₚ 0 68 = 0) ∧ (¬ ((0 ≤ a1 ∧ a1 < I 0 1) ∧ (0 ≤ a2 ∧ a2 < I 0 2) ∧ (0 ≤ a3 ∧ a3 < I 0 1)) → Iₚ 0 68 = I 0 68))) := by
  obtain ⟨⟨hI, KTM, KVF, KGR, KTO, KFM, KFV, KPL, KOX⟩, KLE, b1, b2, b3, b4, b5⟩ := h
  have rt := (gr_b_0_68 hI)
  obtain ⟨r, h1, E, P⟩ := r_swap_t (ws0 := ws0) (tb := tb) hws htb ext I J hI a1 a2 a3 ha1 ha2 ha3  KGR KFV KPL KOX
  obtain ⟨Iₚ, Jₚ, e1, hIₚ, F, G, KGR', KFV', KPL', KOX', ⟨z, hr, q⟩⟩ := P
  have KTM' := gr_TM_fr KTM (fun k => F 52 k rfl) (fun k => F 53 k rfl) (fun k => F 54 k rfl) (F 0 64 rfl)
  have KVF' := gr_VF_fr KVF (fun k => F 14 k rfl) (fun k => F 13 k rfl)
  have KTO' := gr_TO_fr KTO (fun k => F 52 k rfl) (fun k => F 53 k rfl) (fun k => F 54 k rfl) (fun k => F 55 k rfl) (fun k => F 6 k rfl) (F 0 64 rfl) (F 0 3 rfl)
  have KFM' := gr_FM_fr KFM (fun k => F 10 k rfl) (fun k => F 55 k rfl) (fun k => F 52 k rfl) (fun k => F 53 k rfl) (fun k => F 54 k rfl) (F 0 64 rfl) (F 0 3 rfl)
  have e59 := F 0 59 rfl
  have e42 := F 0 42 rfl
  have e64 := F 0 64 rfl
  have e100 := F 0 100 rfl
  have eC := F 0 206 rfl
  have KLE' : gr_LE (20 * ((n + 1 : Nat) : Int)) Iₚ := gr_LE_tp KLE (fun k => F 19 k rfl) (by omega)
  exact ⟨r, h1, gz_Ev_mono (d := 801) (by decide) E, Iₚ, Jₚ, e1, ⟨⟨hIₚ, KTM', KVF', KGR', KTO', KFM', KFV', KPL', KOX'⟩, KLE', by omega, by omega, by omega, by omega, by omega⟩, ⟨gq_Tok F G q.2.2.2.2 (by decide) (by decide) ⟨fun _ => ⟨F 0 132 rfl, F 0 133 rfl, fun k => F 80 k rfl⟩, fun _ => ⟨F 0 136 rfl, F 0 137 rfl, F 0 138 rfl, fun k => F 81 k rfl, fun k => F 82 k rfl⟩, fun _ => ⟨F 0 211 rfl, fun k => F 132 k rfl, fun k => F 133 k rfl⟩⟩, fun k => F 56 k rfl⟩, ⟨z, hr, by omega, by omega, by omega, by omega⟩⟩
set_option maxHeartbeats 8000000 in
set_option maxRecDepth 100000 in
theorem q_candidate {ws0 : List Cond} {tb : String → gz_T} (hws : ∀ w ∈ gr_ws, w ∈ ws0) (htb : tb RX13 = gr_T) (ext : gz_Sh) {n : Nat} {I : gr_I} {J : gr_J} (h : gq_St n I) (hn : n < 64) (a1 : Int) (ha1 : (-2147483648) ≤ a1 ∧ a1 ≤ 2147483647) : ∃ r hₚ, gz_Ev ws0 tb 1000 (yX13_candidate, cX13_candidate, 3, (some .int)) [.inr (.inr (some 0)), .inl a1] (gr_sh ++ ext) (gr_h I J) r (gr_sh ++ ext) hₚ 0 0 ∧ (∃ (Iₚ : gr_I) (Jₚ : gr_J), hₚ = gr_h Iₚ Jₚ ∧ gq_St (n + 1) Iₚ ∧ (gq_T 0 I J Iₚ Jₚ ∧ ∀ k, Iₚ 56 k = I 56 k) ∧ (∃ z : Int, r = some (.inl z) ∧ (-2147483648) ≤ z ∧ z ≤ 2147483647 ∧ (Iₚ 0 68 = I 0 68))) := by
  obtain ⟨⟨hI, KTM, KVF, KGR, KTO, KFM, KFV, KPL, KOX⟩, KLE, b1, b2, b3, b4, b5⟩ := h
  have rt := (gr_b_0_68 hI)
  obtain ⟨r, h1, E, P⟩ := r_candidate (ws0 := ws0) (tb := tb) hws htb ext I J hI a1 ha1  
  obtain ⟨Iₚ, Jₚ, e1, hIₚ, F, G, ⟨z, hr, q⟩⟩ := P
  have KTM' := gr_TM_fr KTM (fun k => F 52 k rfl) (fun k => F 53 k rfl) (fun k => F 54 k rfl) (F 0 64 rfl)
  have KVF' := gr_VF_fr KVF (fun k => F 14 k rfl) (fun k => F 13 k rfl)
  have KGR' := gr_GR_fr KGR (fun k => F 19 k rfl) (fun k => F 18 k rfl) (fun k => F 36 k rfl) (fun k => F 41 k rfl) (fun k => F 42 k rfl) (fun k => F 43 k rfl) (fun k => F 45 k rfl) (fun k => F 46 k rfl) (fun k => F 47 k rfl) (fun k => F 6 k rfl) (fun k => F 7 k rfl) (fun k => F 8 k rfl) (F 0 3 rfl)
  have KTO' := gr_TO_fr KTO (fun k => F 52 k rfl) (fun k => F 53 k rfl) (fun k => F 54 k rfl) (fun k => F 55 k rfl) (fun k => F 6 k rfl) (F 0 64 rfl) (F 0 3 rfl)
  have KFM' := gr_FM_fr KFM (fun k => F 10 k rfl) (fun k => F 55 k rfl) (fun k => F 52 k rfl) (fun k => F 53 k rfl) (fun k => F 54 k rfl) (F 0 64 rfl) (F 0 3 rfl)
  have KFV' := gr_FV_fr KFV (fun k => F 87 k rfl) (fun k => F 88 k rfl) (fun k => F 104 k rfl) (fun k => F 90 k rfl) (fun k => F 91 k rfl) (fun k => F 92 k rfl) (fun k => F 94 k rfl) (fun k => F 95 k rfl) (fun k => F 97 k rfl) (fun k => F 98 k rfl) (fun k => F 19 k rfl) (fun k => F 18 k rfl) (fun k => F 41 k rfl) (fun k => F 6 k rfl) (fun k => F 99 k rfl) (fun k => F 105 k rfl) (fun k => F 107 k rfl) (fun k => F 108 k rfl) (fun k => F 110 k rfl) (fun k => F 111 k rfl) (F 0 157 rfl) (F 0 158 rfl) (F 0 177 rfl) (F 0 186 rfl) (F 0 159 rfl) hI
  have KPL' := gr_PL_fr KPL (fun k => F 114 k rfl) (fun k => F 115 k rfl) (fun k => F 6 k rfl) (F 0 3 rfl)
  have KOX' := gr_OX_fr KOX (fun k => F 121 k rfl) (fun k => F 120 k rfl)
  have e59 := F 0 59 rfl
  have e42 := F 0 42 rfl
  have e64 := F 0 64 rfl
  have e100 := F 0 100 rfl
  have eC := F 0 206 rfl
  have eT := F 0 68 rfl
  have KLE' : gr_LE (20 * ((n + 1 : Nat) : Int)) Iₚ := gr_LE_tp KLE (fun k => F 19 k rfl) (by omega)
  exact ⟨r, h1, gz_Ev_mono (d := 2) (by decide) E, Iₚ, Jₚ, e1, ⟨⟨hIₚ, KTM', KVF', KGR', KTO', KFM', KFV', KPL', KOX'⟩, KLE', by omega, by omega, by omega, by omega, by omega⟩, ⟨gq_Tof F G (by decide) (by decide) (by decide) ⟨fun _ => ⟨F 0 132 rfl, F 0 133 rfl, fun k => F 80 k rfl⟩, fun _ => ⟨F 0 136 rfl, F 0 137 rfl, F 0 138 rfl, fun k => F 81 k rfl, fun k => F 82 k rfl⟩, fun _ => ⟨F 0 211 rfl, fun k => F 132 k rfl, fun k => F 133 k rfl⟩⟩, fun k => F 56 k rfl⟩, ⟨z, hr, by omega, by omega, eT⟩⟩
set_option maxHeartbeats 8000000 in
set_option maxRecDepth 100000 in
theorem q_add {ws0 : List Cond} {tb : String → gz_T} (hws : ∀ w ∈ gr_ws, w ∈ ws0) (htb : tb RX13 = gr_T) (ext : gz_Sh) {n : Nat} {I : gr_I} {J : gr_J} (h : gq_St n I) (hn : n < 64) (a1 : Int) (ha1 : (-2147483648) ≤ a1 ∧ a1 ≤ 2147483647) : ∃ r hₚ, gz_Ev ws0 tb 1000 (yX13_add, cX13_add, 4, (some .int)) [.inr (.inr (some 0)), .inl a1] (gr_sh ++ ext) (gr_h I J) r (gr_sh ++ ext) hₚ 0 0 ∧ (∃ (Iₚ : gr_I) (Jₚ : gr_J), hₚ = gr_h Iₚ Jₚ ∧ gq_St (n + 1) Iₚ ∧ (gq_T 0 I J Iₚ Jₚ ∧ ∀ k, Iₚ 56 k = I 56 k) ∧ (∃ z : Int, r = some (.inl z) ∧ (-2147483648) ≤ z ∧ z ≤ 2147483647 ∧ ((0 ≤ a1 ∧ a1 < I 0 1) → Iₚ 0 68 = 0) ∧ (¬ (0 ≤ a1 ∧ a1 < I 0 1) → Iₚ 0 68 = I 0 68))) := by
  obtain ⟨⟨hI, KTM, KVF, KGR, KTO, KFM, KFV, KPL, KOX⟩, KLE, b1, b2, b3, b4, b5⟩ := h
  have rt := (gr_b_0_68 hI)
  obtain ⟨r, h1, E, P⟩ := r_add_t (ws0 := ws0) (tb := tb) hws htb ext I J hI a1 ha1 (by omega) 
  obtain ⟨Iₚ, Jₚ, e1, hIₚ, F, G, ⟨z, hr, q⟩⟩ := P
  have KTM' := gr_TM_fr KTM (fun k => F 52 k rfl) (fun k => F 53 k rfl) (fun k => F 54 k rfl) (F 0 64 rfl)
  have KVF' := gr_VF_fr KVF (fun k => F 14 k rfl) (fun k => F 13 k rfl)
  have KGR' := gr_GR_fr KGR (fun k => F 19 k rfl) (fun k => F 18 k rfl) (fun k => F 36 k rfl) (fun k => F 41 k rfl) (fun k => F 42 k rfl) (fun k => F 43 k rfl) (fun k => F 45 k rfl) (fun k => F 46 k rfl) (fun k => F 47 k rfl) (fun k => F 6 k rfl) (fun k => F 7 k rfl) (fun k => F 8 k rfl) (F 0 3 rfl)
  have KTO' := gr_TO_fr KTO (fun k => F 52 k rfl) (fun k => F 53 k rfl) (fun k => F 54 k rfl) (fun k => F 55 k rfl) (fun k => F 6 k rfl) (F 0 64 rfl) (F 0 3 rfl)
  have KFM' := gr_FM_fr KFM (fun k => F 10 k rfl) (fun k => F 55 k rfl) (fun k => F 52 k rfl) (fun k => F 53 k rfl) (fun k => F 54 k rfl) (F 0 64 rfl) (F 0 3 rfl)
  have KFV' := gr_FV_fr KFV (fun k => F 87 k rfl) (fun k => F 88 k rfl) (fun k => F 104 k rfl) (fun k => F 90 k rfl) (fun k => F 91 k rfl) (fun k => F 92 k rfl) (fun k => F 94 k rfl) (fun k => F 95 k rfl) (fun k => F 97 k rfl) (fun k => F 98 k rfl) (fun k => F 19 k rfl) (fun k => F 18 k rfl) (fun k => F 41 k rfl) (fun k => F 6 k rfl) (fun k => F 99 k rfl) (fun k => F 105 k rfl) (fun k => F 107 k rfl) (fun k => F 108 k rfl) (fun k => F 110 k rfl) (fun k => F 111 k rfl) (F 0 157 rfl) (F 0 158 rfl) (F 0 177 rfl) (F 0 186 rfl) (F 0 159 rfl) hI
  have KPL' := gr_PL_fr KPL (fun k => F 114 k rfl) (fun k => F 115 k rfl) (fun k => F 6 k rfl) (F 0 3 rfl)
  have KOX' := gr_OX_fr KOX (fun k => F 121 k rfl) (fun k => F 120 k rfl)
  have e59 := F 0 59 rfl
  have e42 := F 0 42 rfl
  have e64 := F 0 64 rfl
  have e100 := F 0 100 rfl
  have KLE' : gr_LE (20 * ((n + 1 : Nat) : Int)) Iₚ := gr_LE_tp KLE (fun k => F 19 k rfl) (by omega)
  exact ⟨r, h1, gz_Ev_mono (d := 3) (by decide) E, Iₚ, Jₚ, e1, ⟨⟨hIₚ, KTM', KVF', KGR', KTO', KFM', KFV', KPL', KOX'⟩, KLE', by omega, by omega, by omega, by omega, by omega⟩, ⟨gq_Tof F G (by decide) (by decide) (by decide) ⟨fun _ => ⟨F 0 132 rfl, F 0 133 rfl, fun k => F 80 k rfl⟩, fun _ => ⟨F 0 136 rfl, F 0 137 rfl, F 0 138 rfl, fun k => F 81 k rfl, fun k => F 82 k rfl⟩, fun _ => ⟨F 0 211 rfl, fun k => F 132 k rfl, fun k => F 133 k rfl⟩⟩, fun k => F 56 k rfl⟩, ⟨z, hr, by omega, by omega, by omega, by omega⟩⟩
set_option maxHeartbeats 8000000 in
set_option maxRecDepth 100000 in
theorem q_ask {ws0 : List Cond} {tb : String → gz_T} (hws : ∀ w ∈ gr_ws, w ∈ ws0) (htb : tb RX13 = gr_T) (ext : gz_Sh) {n : Nat} {I : gr_I} {J : gr_J} (h : gq_St n I) (hn : n < 64) (a1 : Int) (ha1 : (-2147483648) ≤ a1 ∧ a1 ≤ 2147483647) : ∃ r hₚ, gz_Ev ws0 tb 1000 (yX13_ask, cX13_ask, 7, (some .int)) [.inr (.inr (some 0)), .inl a1] (gr_sh ++ ext) (gr_h I J) r (gr_sh ++ ext) hₚ 0 0 ∧ (∃ (Iₚ : gr_I) (Jₚ : gr_J), hₚ = gr_h Iₚ Jₚ ∧ gq_St (n + 1) Iₚ ∧ (gq_T 3 I J Iₚ Jₚ ∧ ∀ k, Iₚ 56 k = I 56 k) ∧ (∃ z : Int, r = some (.inl z) ∧ (-2147483648) ≤ z ∧ z ≤ 2147483647 ∧ ((0 ≤ a1 ∧ a1 < I 0 1) → Iₚ 0 68 = 0) ∧ (¬ (0 ≤ a1 ∧ a1 < I 0 1) → Iₚ 0 68 = I 0 68))) := by
  obtain ⟨⟨hI, KTM, KVF, KGR, KTO, KFM, KFV, KPL, KOX⟩, KLE, b1, b2, b3, b4, b5⟩ := h
  have rt := (gr_b_0_68 hI)
  obtain ⟨r, h1, E, P⟩ := r_ask_t (ws0 := ws0) (tb := tb) hws htb ext I J hI a1 ha1  
  obtain ⟨Iₚ, Jₚ, e1, hIₚ, F, G, ⟨z, hr, q⟩⟩ := P
  have KTM' := gr_TM_fr KTM (fun k => F 52 k rfl) (fun k => F 53 k rfl) (fun k => F 54 k rfl) (F 0 64 rfl)
  have KVF' := gr_VF_fr KVF (fun k => F 14 k rfl) (fun k => F 13 k rfl)
  have KGR' := gr_GR_fr KGR (fun k => F 19 k rfl) (fun k => F 18 k rfl) (fun k => F 36 k rfl) (fun k => F 41 k rfl) (fun k => F 42 k rfl) (fun k => F 43 k rfl) (fun k => F 45 k rfl) (fun k => F 46 k rfl) (fun k => F 47 k rfl) (fun k => F 6 k rfl) (fun k => F 7 k rfl) (fun k => F 8 k rfl) (F 0 3 rfl)
  have KTO' := gr_TO_fr KTO (fun k => F 52 k rfl) (fun k => F 53 k rfl) (fun k => F 54 k rfl) (fun k => F 55 k rfl) (fun k => F 6 k rfl) (F 0 64 rfl) (F 0 3 rfl)
  have KFM' := gr_FM_fr KFM (fun k => F 10 k rfl) (fun k => F 55 k rfl) (fun k => F 52 k rfl) (fun k => F 53 k rfl) (fun k => F 54 k rfl) (F 0 64 rfl) (F 0 3 rfl)
  have KFV' := gr_FV_fr KFV (fun k => F 87 k rfl) (fun k => F 88 k rfl) (fun k => F 104 k rfl) (fun k => F 90 k rfl) (fun k => F 91 k rfl) (fun k => F 92 k rfl) (fun k => F 94 k rfl) (fun k => F 95 k rfl) (fun k => F 97 k rfl) (fun k => F 98 k rfl) (fun k => F 19 k rfl) (fun k => F 18 k rfl) (fun k => F 41 k rfl) (fun k => F 6 k rfl) (fun k => F 99 k rfl) (fun k => F 105 k rfl) (fun k => F 107 k rfl) (fun k => F 108 k rfl) (fun k => F 110 k rfl) (fun k => F 111 k rfl) (F 0 157 rfl) (F 0 158 rfl) (F 0 177 rfl) (F 0 186 rfl) (F 0 159 rfl) hI
  have KPL' := gr_PL_fr KPL (fun k => F 114 k rfl) (fun k => F 115 k rfl) (fun k => F 6 k rfl) (F 0 3 rfl)
  have KOX' := gr_OX_fr KOX (fun k => F 121 k rfl) (fun k => F 120 k rfl)
  have e59 := F 0 59 rfl
  have e42 := F 0 42 rfl
  have e64 := F 0 64 rfl
  have e100 := F 0 100 rfl
  have eC := F 0 206 rfl
  have KLE' : gr_LE (20 * ((n + 1 : Nat) : Int)) Iₚ := gr_LE_tp KLE (fun k => F 19 k rfl) (by omega)
  exact ⟨r, h1, gz_Ev_mono (d := 11) (by decide) E, Iₚ, Jₚ, e1, ⟨⟨hIₚ, KTM', KVF', KGR', KTO', KFM', KFV', KPL', KOX'⟩, KLE', by omega, by omega, by omega, by omega, by omega⟩, ⟨gq_Tok F G q.2.2.2.2 (by decide) (by decide) ⟨fun _ => ⟨F 0 132 rfl, F 0 133 rfl, fun k => F 80 k rfl⟩, fun _ => ⟨F 0 136 rfl, F 0 137 rfl, F 0 138 rfl, fun k => F 81 k rfl, fun k => F 82 k rfl⟩, fun h => absurd rfl h⟩, fun k => F 56 k rfl⟩, ⟨z, hr, by omega, by omega, by omega, by omega⟩⟩
set_option maxHeartbeats 8000000 in
set_option maxRecDepth 100000 in
theorem q_hit {ws0 : List Cond} {tb : String → gz_T} (hws : ∀ w ∈ gr_ws, w ∈ ws0) (htb : tb RX13 = gr_T) (ext : gz_Sh) {n : Nat} {I : gr_I} {J : gr_J} (h : gq_St n I) (hn : n < 64) (a1 : Int) (a2 : Int) (ha1 : (-2147483648) ≤ a1 ∧ a1 ≤ 2147483647) (ha2 : (-2147483648) ≤ a2 ∧ a2 ≤ 2147483647) : ∃ r hₚ, gz_Ev ws0 tb 1000 (yX13_hit, cX13_hit, 3, (some .int)) [.inr (.inr (some 0)), .inl a1, .inl a2] (gr_sh ++ ext) (gr_h I J) r (gr_sh ++ ext) hₚ 0 0 ∧ (∃ (Iₚ : gr_I) (Jₚ : gr_J), hₚ = gr_h Iₚ Jₚ ∧ gq_St (n + 1) Iₚ ∧ (gq_T 0 I J Iₚ Jₚ ∧ ∀ k, Iₚ 56 k = I 56 k) ∧ (∃ z : Int, r = some (.inl z) ∧ (-2147483648) ≤ z ∧ z ≤ 2147483647 ∧ (Iₚ 0 68 = I 0 68))) := by
  obtain ⟨⟨hI, KTM, KVF, KGR, KTO, KFM, KFV, KPL, KOX⟩, KLE, b1, b2, b3, b4, b5⟩ := h
  have rt := (gr_b_0_68 hI)
  obtain ⟨r, h1, E, P⟩ := r_hit (ws0 := ws0) (tb := tb) hws htb ext I J hI a1 a2 ha1 ha2  
  obtain ⟨Iₚ, Jₚ, e1, hIₚ, F, G, ⟨z, hr, q⟩⟩ := P
  have KTM' := gr_TM_fr KTM (fun k => F 52 k rfl) (fun k => F 53 k rfl) (fun k => F 54 k rfl) (F 0 64 rfl)
  have KVF' := gr_VF_fr KVF (fun k => F 14 k rfl) (fun k => F 13 k rfl)
  have KGR' := gr_GR_fr KGR (fun k => F 19 k rfl) (fun k => F 18 k rfl) (fun k => F 36 k rfl) (fun k => F 41 k rfl) (fun k => F 42 k rfl) (fun k => F 43 k rfl) (fun k => F 45 k rfl) (fun k => F 46 k rfl) (fun k => F 47 k rfl) (fun k => F 6 k rfl) (fun k => F 7 k rfl) (fun k => F 8 k rfl) (F 0 3 rfl)
  have KTO' := gr_TO_fr KTO (fun k => F 52 k rfl) (fun k => F 53 k rfl) (fun k => F 54 k rfl) (fun k => F 55 k rfl) (fun k => F 6 k rfl) (F 0 64 rfl) (F 0 3 rfl)
  have KFM' := gr_FM_fr KFM (fun k => F 10 k rfl) (fun k => F 55 k rfl) (fun k => F 52 k rfl) (fun k => F 53 k rfl) (fun k => F 54 k rfl) (F 0 64 rfl) (F 0 3 rfl)
  have KFV' := gr_FV_fr KFV (fun k => F 87 k rfl) (fun k => F 88 k rfl) (fun k => F 104 k rfl) (fun k => F 90 k rfl) (fun k => F 91 k rfl) (fun k => F 92 k rfl) (fun k => F 94 k rfl) (fun k => F 95 k rfl) (fun k => F 97 k rfl) (fun k => F 98 k rfl) (fun k => F 19 k rfl) (fun k => F 18 k rfl) (fun k => F 41 k rfl) (fun k => F 6 k rfl) (fun k => F 99 k rfl) (fun k => F 105 k rfl) (fun k => F 107 k rfl) (fun k => F 108 k rfl) (fun k => F 110 k rfl) (fun k => F 111 k rfl) (F 0 157 rfl) (F 0 158 rfl) (F 0 177 rfl) (F 0 186 rfl) (F 0 159 rfl) hI
  have KPL' := gr_PL_fr KPL (fun k => F 114 k rfl) (fun k => F 115 k rfl) (fun k => F 6 k rfl) (F 0 3 rfl)
  have KOX' := gr_OX_fr KOX (fun k => F 121 k rfl) (fun k => F 120 k rfl)
  have e59 := F 0 59 rfl
  have e42 := F 0 42 rfl
  have e64 := F 0 64 rfl
  have e100 := F 0 100 rfl
  have eC := F 0 206 rfl
  have eT := F 0 68 rfl
  have KLE' : gr_LE (20 * ((n + 1 : Nat) : Int)) Iₚ := gr_LE_tp KLE (fun k => F 19 k rfl) (by omega)
  exact ⟨r, h1, gz_Ev_mono (d := 2) (by decide) E, Iₚ, Jₚ, e1, ⟨⟨hIₚ, KTM', KVF', KGR', KTO', KFM', KFV', KPL', KOX'⟩, KLE', by omega, by omega, by omega, by omega, by omega⟩, ⟨gq_Tof F G (by decide) (by decide) (by decide) ⟨fun _ => ⟨F 0 132 rfl, F 0 133 rfl, fun k => F 80 k rfl⟩, fun _ => ⟨F 0 136 rfl, F 0 137 rfl, F 0 138 rfl, fun k => F 81 k rfl, fun k => F 82 k rfl⟩, fun _ => ⟨F 0 211 rfl, fun k => F 132 k rfl, fun k => F 133 k rfl⟩⟩, fun k => F 56 k rfl⟩, ⟨z, hr, by omega, by omega, eT⟩⟩
set_option maxHeartbeats 8000000 in
set_option maxRecDepth 100000 in
theorem q_mend {ws0 : List Cond} {tb : String → gz_T} (hws : ∀ w ∈ gr_ws, w ∈ ws0) (htb : tb RX13 = gr_T) (ext : gz_Sh) {n : Nat} {I : gr_I} {J : gr_J} (h : gq_St n I) (hn : n < 64) (a1 : Int) (a2 : Int) (ha1 : (-2147483648) ≤ a1 ∧ a1 ≤ 2147483647) (ha2 : (-2147483648) ≤ a2 ∧ a2 ≤ 2147483647) : ∃ r hₚ, gz_Ev ws0 tb 1000 (yX13_mend, cX13_mend, 4, (some .int)) [.inr (.inr (some 0)), .inl a1, .inl a2] (gr_sh ++ ext) (gr_h I J) r (gr_sh ++ ext) hₚ 0 0 ∧ (∃ (Iₚ : gr_I) (Jₚ : gr_J), hₚ = gr_h Iₚ Jₚ ∧ gq_St (n + 1) Iₚ ∧ (gq_T 0 I J Iₚ Jₚ ∧ ∀ k, Iₚ 56 k = I 56 k) ∧ (∃ z : Int, r = some (.inl z) ∧ (-2147483648) ≤ z ∧ z ≤ 2147483647 ∧ (((0 ≤ a1 ∧ a1 < I 0 1) ∧ (0 ≤ a2 ∧ a2 < I 0 2)) → Iₚ 0 68 = 0) ∧ (¬ ((0 ≤ a1 ∧ a1 < I 0 1) ∧ (0 ≤ a2 ∧ a2 < I 0 2)) → Iₚ 0 68 = I 0 68))) := by
  obtain ⟨⟨hI, KTM, KVF, KGR, KTO, KFM, KFV, KPL, KOX⟩, KLE, b1, b2, b3, b4, b5⟩ := h
  have rt := (gr_b_0_68 hI)
  obtain ⟨r, h1, E, P⟩ := r_mend_t (ws0 := ws0) (tb := tb) hws htb ext I J hI a1 a2 ha1 ha2  KGR KFV
  obtain ⟨Iₚ, Jₚ, e1, hIₚ, F, G, KGR', KFV', ⟨z, hr, q⟩⟩ := P
  have KTM' := gr_TM_fr KTM (fun k => F 52 k rfl) (fun k => F 53 k rfl) (fun k => F 54 k rfl) (F 0 64 rfl)
  have KVF' := gr_VF_fr KVF (fun k => F 14 k rfl) (fun k => F 13 k rfl)
  have KTO' := gr_TO_fr KTO (fun k => F 52 k rfl) (fun k => F 53 k rfl) (fun k => F 54 k rfl) (fun k => F 55 k rfl) (fun k => F 6 k rfl) (F 0 64 rfl) (F 0 3 rfl)
  have KFM' := gr_FM_fr KFM (fun k => F 10 k rfl) (fun k => F 55 k rfl) (fun k => F 52 k rfl) (fun k => F 53 k rfl) (fun k => F 54 k rfl) (F 0 64 rfl) (F 0 3 rfl)
  have KPL' := gr_PL_fr KPL (fun k => F 114 k rfl) (fun k => F 115 k rfl) (fun k => F 6 k rfl) (F 0 3 rfl)
  have KOX' := gr_OX_fr KOX (fun k => F 121 k rfl) (fun k => F 120 k rfl)
  have e59 := F 0 59 rfl
  have e42 := F 0 42 rfl
  have e64 := F 0 64 rfl
  have e100 := F 0 100 rfl
  have eC := F 0 206 rfl
  have KLE' : gr_LE (20 * ((n + 1 : Nat) : Int)) Iₚ := gr_LE_tp KLE (fun k => F 19 k rfl) (by omega)
  exact ⟨r, h1, gz_Ev_mono (d := 14) (by decide) E, Iₚ, Jₚ, e1, ⟨⟨hIₚ, KTM', KVF', KGR', KTO', KFM', KFV', KPL', KOX'⟩, KLE', by omega, by omega, by omega, by omega, by omega⟩, ⟨gq_Tok F G q.2.2.2.2 (by decide) (by decide) ⟨fun _ => ⟨F 0 132 rfl, F 0 133 rfl, fun k => F 80 k rfl⟩, fun _ => ⟨F 0 136 rfl, F 0 137 rfl, F 0 138 rfl, fun k => F 81 k rfl, fun k => F 82 k rfl⟩, fun _ => ⟨F 0 211 rfl, fun k => F 132 k rfl, fun k => F 133 k rfl⟩⟩, fun k => F 56 k rfl⟩, ⟨z, hr, by omega, by omega, by omega, by omega⟩⟩
set_option maxHeartbeats 8000000 in
set_option maxRecDepth 100000 in
theorem q_mean {ws0 : List Cond} {tb : String → gz_T} (hws : ∀ w ∈ gr_ws, w ∈ ws0) (htb : tb RX13 = gr_T) (ext : gz_Sh) {n : Nat} {I : gr_I} {J : gr_J} (h : gq_St n I) (hn : n < 64) (a1 : Int) (ha1 : (-2147483648) ≤ a1 ∧ a1 ≤ 2147483647) : ∃ r hₚ, gz_Ev ws0 tb 1000 (yX13_mean_, cX13_mean_, 3, (some .int)) [.inr (.inr (some 0)), .inl a1] (gr_sh ++ ext) (gr_h I J) r (gr_sh ++ ext) hₚ 0 0 ∧ (∃ (Iₚ : gr_I) (Jₚ : gr_J), hₚ = gr_h Iₚ Jₚ ∧ gq_St (n + 1) Iₚ ∧ (gq_T 0 I J Iₚ Jₚ ∧ ∀ k, Iₚ 56 k = I 56 k) ∧ (∃ z : Int, r = some (.inl z) ∧ (-2147483648) ≤ z ∧ z ≤ 2147483647 ∧ (Iₚ 0 68 = I 0 68))) := by
  obtain ⟨⟨hI, KTM, KVF, KGR, KTO, KFM, KFV, KPL, KOX⟩, KLE, b1, b2, b3, b4, b5⟩ := h
  have rt := (gr_b_0_68 hI)
  obtain ⟨r, h1, E, P⟩ := r_mean_ (ws0 := ws0) (tb := tb) hws htb ext I J hI a1 ha1  KPL KTM KTO KFM
  obtain ⟨Iₚ, Jₚ, e1, hIₚ, F, G, KPL', KTM', KTO', KFM', ⟨z, hr, q⟩⟩ := P
  have KVF' := gr_VF_fr KVF (fun k => F 14 k rfl) (fun k => F 13 k rfl)
  have KGR' := gr_GR_fr KGR (fun k => F 19 k rfl) (fun k => F 18 k rfl) (fun k => F 36 k rfl) (fun k => F 41 k rfl) (fun k => F 42 k rfl) (fun k => F 43 k rfl) (fun k => F 45 k rfl) (fun k => F 46 k rfl) (fun k => F 47 k rfl) (fun k => F 6 k rfl) (fun k => F 7 k rfl) (fun k => F 8 k rfl) (F 0 3 rfl)
  have KFV' := gr_FV_fr KFV (fun k => F 87 k rfl) (fun k => F 88 k rfl) (fun k => F 104 k rfl) (fun k => F 90 k rfl) (fun k => F 91 k rfl) (fun k => F 92 k rfl) (fun k => F 94 k rfl) (fun k => F 95 k rfl) (fun k => F 97 k rfl) (fun k => F 98 k rfl) (fun k => F 19 k rfl) (fun k => F 18 k rfl) (fun k => F 41 k rfl) (fun k => F 6 k rfl) (fun k => F 99 k rfl) (fun k => F 105 k rfl) (fun k => F 107 k rfl) (fun k => F 108 k rfl) (fun k => F 110 k rfl) (fun k => F 111 k rfl) (F 0 157 rfl) (F 0 158 rfl) (F 0 177 rfl) (F 0 186 rfl) (F 0 159 rfl) hI
  have KOX' := gr_OX_fr KOX (fun k => F 121 k rfl) (fun k => F 120 k rfl)
  have e59 := F 0 59 rfl
  have e42 := F 0 42 rfl
  have e64 := F 0 64 rfl
  have e100 := F 0 100 rfl
  have eC := F 0 206 rfl
  have eT := F 0 68 rfl
  have KLE' : gr_LE (20 * ((n + 1 : Nat) : Int)) Iₚ := gr_LE_tp KLE (fun k => F 19 k rfl) (by omega)
  exact ⟨r, h1, gz_Ev_mono (d := 906) (by decide) E, Iₚ, Jₚ, e1, ⟨⟨hIₚ, KTM', KVF', KGR', KTO', KFM', KFV', KPL', KOX'⟩, KLE', by omega, by omega, by omega, by omega, by omega⟩, ⟨gq_Tof F G (by decide) (by decide) (by decide) ⟨fun _ => ⟨F 0 132 rfl, F 0 133 rfl, fun k => F 80 k rfl⟩, fun _ => ⟨F 0 136 rfl, F 0 137 rfl, F 0 138 rfl, fun k => F 81 k rfl, fun k => F 82 k rfl⟩, fun _ => ⟨F 0 211 rfl, fun k => F 132 k rfl, fun k => F 133 k rfl⟩⟩, fun k => F 56 k rfl⟩, ⟨z, hr, by omega, by omega, eT⟩⟩
set_option maxHeartbeats 8000000 in
set_option maxRecDepth 100000 in
theorem q_truth {ws0 : List Cond} {tb : String → gz_T} (hws : ∀ w ∈ gr_ws, w ∈ ws0) (htb : tb RX13 = gr_T) (ext : gz_Sh) {n : Nat} {I : gr_I} {J : gr_J} (h : gq_St n I) (hn : n < 64) (a1 : Int) (ha1 : (-2147483648) ≤ a1 ∧ a1 ≤ 2147483647) : ∃ r hₚ, gz_Ev ws0 tb 1000 (yX13_truth, cX13_truth, 3, (some .int)) [.inr (.inr (some 0)), .inl a1] (gr_sh ++ ext) (gr_h I J) r (gr_sh ++ ext) hₚ 0 0 ∧ (∃ (Iₚ : gr_I) (Jₚ : gr_J), hₚ = gr_h Iₚ Jₚ ∧ gq_St (n + 1) Iₚ ∧ (gq_T 0 I J Iₚ Jₚ ∧ ∀ k, Iₚ 56 k = I 56 k) ∧ (∃ z : Int, r = some (.inl z) ∧ (-2147483648) ≤ z ∧ z ≤ 2147483647 ∧ (Iₚ 0 68 = I 0 68))) := by
  obtain ⟨⟨hI, KTM, KVF, KGR, KTO, KFM, KFV, KPL, KOX⟩, KLE, b1, b2, b3, b4, b5⟩ := h
  have rt := (gr_b_0_68 hI)
  obtain ⟨r, h1, E, P⟩ := r_truth (ws0 := ws0) (tb := tb) hws htb ext I J hI a1 ha1  KPL KTM KTO KFM
  obtain ⟨Iₚ, Jₚ, e1, hIₚ, F, G, KPL', KTM', KTO', KFM', ⟨z, hr, q⟩⟩ := P
  have KVF' := gr_VF_fr KVF (fun k => F 14 k rfl) (fun k => F 13 k rfl)
  have KGR' := gr_GR_fr KGR (fun k => F 19 k rfl) (fun k => F 18 k rfl) (fun k => F 36 k rfl) (fun k => F 41 k rfl) (fun k => F 42 k rfl) (fun k => F 43 k rfl) (fun k => F 45 k rfl) (fun k => F 46 k rfl) (fun k => F 47 k rfl) (fun k => F 6 k rfl) (fun k => F 7 k rfl) (fun k => F 8 k rfl) (F 0 3 rfl)
  have KFV' := gr_FV_fr KFV (fun k => F 87 k rfl) (fun k => F 88 k rfl) (fun k => F 104 k rfl) (fun k => F 90 k rfl) (fun k => F 91 k rfl) (fun k => F 92 k rfl) (fun k => F 94 k rfl) (fun k => F 95 k rfl) (fun k => F 97 k rfl) (fun k => F 98 k rfl) (fun k => F 19 k rfl) (fun k => F 18 k rfl) (fun k => F 41 k rfl) (fun k => F 6 k rfl) (fun k => F 99 k rfl) (fun k => F 105 k rfl) (fun k => F 107 k rfl) (fun k => F 108 k rfl) (fun k => F 110 k rfl) (fun k => F 111 k rfl) (F 0 157 rfl) (F 0 158 rfl) (F 0 177 rfl) (F 0 186 rfl) (F 0 159 rfl) hI
  have KOX' := gr_OX_fr KOX (fun k => F 121 k rfl) (fun k => F 120 k rfl)
  have e59 := F 0 59 rfl
  have e42 := F 0 42 rfl
  have e64 := F 0 64 rfl
  have e100 := F 0 100 rfl
  have eC := F 0 206 rfl
  have eT := F 0 68 rfl
  have KLE' : gr_LE (20 * ((n + 1 : Nat) : Int)) Iₚ := gr_LE_tp KLE (fun k => F 19 k rfl) (by omega)
  exact ⟨r, h1, gz_Ev_mono (d := 906) (by decide) E, Iₚ, Jₚ, e1, ⟨⟨hIₚ, KTM', KVF', KGR', KTO', KFM', KFV', KPL', KOX'⟩, KLE', by omega, by omega, by omega, by omega, by omega⟩, ⟨gq_Tof F G (by decide) (by decide) (by decide) ⟨fun _ => ⟨F 0 132 rfl, F 0 133 rfl, fun k => F 80 k rfl⟩, fun _ => ⟨F 0 136 rfl, F 0 137 rfl, F 0 138 rfl, fun k => F 81 k rfl, fun k => F 82 k rfl⟩, fun _ => ⟨F 0 211 rfl, fun k => F 132 k rfl, fun k => F 133 k rfl⟩⟩, fun k => F 56 k rfl⟩, ⟨z, hr, by omega, by omega, eT⟩⟩
set_option maxHeartbeats 8000000 in
set_option maxRecDepth 100000 in
theorem q_count {ws0 : List Cond} {tb : String → gz_T} (hws : ∀ w ∈ gr_ws, w ∈ ws0) (htb : tb RX13 = gr_T) (ext : gz_Sh) {n : Nat} {I : gr_I} {J : gr_J} (h : gq_St n I) (hn : n < 64) (a1 : Int) (a2 : Int) (ha1 : (-2147483648) ≤ a1 ∧ a1 ≤ 2147483647) (ha2 : (-2147483648) ≤ a2 ∧ a2 ≤ 2147483647) : ∃ r hₚ, gz_Ev ws0 tb 1000 (yX13_count, cX13_count, 3, (some .int)) [.inr (.inr (some 0)), .inl a1, .inl a2] (gr_sh ++ ext) (gr_h I J) r (gr_sh ++ ext) hₚ 0 0 ∧ (∃ (Iₚ : gr_I) (Jₚ : gr_J), hₚ = gr_h Iₚ Jₚ ∧ gq_St (n + 1) Iₚ ∧ (gq_T 0 I J Iₚ Jₚ ∧ ∀ k, Iₚ 56 k = I 56 k) ∧ (∃ z : Int, r = some (.inl z) ∧ (-2147483648) ≤ z ∧ z ≤ 2147483647 ∧ (Iₚ 0 68 = I 0 68))) := by
  obtain ⟨⟨hI, KTM, KVF, KGR, KTO, KFM, KFV, KPL, KOX⟩, KLE, b1, b2, b3, b4, b5⟩ := h
  have rt := (gr_b_0_68 hI)
  obtain ⟨r, h1, E, P⟩ := r_count (ws0 := ws0) (tb := tb) hws htb ext I J hI a1 a2 ha1 ha2  
  obtain ⟨Iₚ, Jₚ, e1, hIₚ, F, G, ⟨z, hr, q⟩⟩ := P
  have KTM' := gr_TM_fr KTM (fun k => F 52 k rfl) (fun k => F 53 k rfl) (fun k => F 54 k rfl) (F 0 64 rfl)
  have KVF' := gr_VF_fr KVF (fun k => F 14 k rfl) (fun k => F 13 k rfl)
  have KGR' := gr_GR_fr KGR (fun k => F 19 k rfl) (fun k => F 18 k rfl) (fun k => F 36 k rfl) (fun k => F 41 k rfl) (fun k => F 42 k rfl) (fun k => F 43 k rfl) (fun k => F 45 k rfl) (fun k => F 46 k rfl) (fun k => F 47 k rfl) (fun k => F 6 k rfl) (fun k => F 7 k rfl) (fun k => F 8 k rfl) (F 0 3 rfl)
  have KTO' := gr_TO_fr KTO (fun k => F 52 k rfl) (fun k => F 53 k rfl) (fun k => F 54 k rfl) (fun k => F 55 k rfl) (fun k => F 6 k rfl) (F 0 64 rfl) (F 0 3 rfl)
  have KFM' := gr_FM_fr KFM (fun k => F 10 k rfl) (fun k => F 55 k rfl) (fun k => F 52 k rfl) (fun k => F 53 k rfl) (fun k => F 54 k rfl) (F 0 64 rfl) (F 0 3 rfl)
  have KFV' := gr_FV_fr KFV (fun k => F 87 k rfl) (fun k => F 88 k rfl) (fun k => F 104 k rfl) (fun k => F 90 k rfl) (fun k => F 91 k rfl) (fun k => F 92 k rfl) (fun k => F 94 k rfl) (fun k => F 95 k rfl) (fun k => F 97 k rfl) (fun k => F 98 k rfl) (fun k => F 19 k rfl) (fun k => F 18 k rfl) (fun k => F 41 k rfl) (fun k => F 6 k rfl) (fun k => F 99 k rfl) (fun k => F 105 k rfl) (fun k => F 107 k rfl) (fun k => F 108 k rfl) (fun k => F 110 k rfl) (fun k => F 111 k rfl) (F 0 157 rfl) (F 0 158 rfl) (F 0 177 rfl) (F 0 186 rfl) (F 0 159 rfl) hI
  have KPL' := gr_PL_fr KPL (fun k => F 114 k rfl) (fun k => F 115 k rfl) (fun k => F 6 k rfl) (F 0 3 rfl)
  have KOX' := gr_OX_fr KOX (fun k => F 121 k rfl) (fun k => F 120 k rfl)
  have e59 := F 0 59 rfl
  have e42 := F 0 42 rfl
  have e64 := F 0 64 rfl
  have e100 := F 0 100 rfl
  have eC := F 0 206 rfl
  have eT := F 0 68 rfl
  have KLE' : gr_LE (20 * ((n + 1 : Nat) : Int)) Iₚ := gr_LE_tp KLE (fun k => F 19 k rfl) (by omega)
  exact ⟨r, h1, gz_Ev_mono (d := 2) (by decide) E, Iₚ, Jₚ, e1, ⟨⟨hIₚ, KTM', KVF', KGR', KTO', KFM', KFV', KPL', KOX'⟩, KLE', by omega, by omega, by omega, by omega, by omega⟩, ⟨gq_Tof F G (by decide) (by decide) (by decide) ⟨fun _ => ⟨F 0 132 rfl, F 0 133 rfl, fun k => F 80 k rfl⟩, fun _ => ⟨F 0 136 rfl, F 0 137 rfl, F 0 138 rfl, fun k => F 81 k rfl, fun k => F 82 k rfl⟩, fun _ => ⟨F 0 211 rfl, fun k => F 132 k rfl, fun k => F 133 k rfl⟩⟩, fun k => F 56 k rfl⟩, ⟨z, hr, by omega, by omega, eT⟩⟩
