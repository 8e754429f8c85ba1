/-! both together: RULES and CLASSES, WORDS and PATTERNS (p9 to p13) -/
def gs_RV (I : gr_I) (A : gc_A) (Ir : gr_I) : Prop := gs_RS I A Ir ∧ gs_RW I A Ir
def gs_SCV (β : Int → Int) (η p : Int) (Ir : gr_I) (Jr : gr_J) (I : gr_I) (A : gc_A) (z : Int) (Iₚ : gr_I) (Aₚ : gc_A) : Prop := gs_SC β η p Ir Jr I A z Iₚ Aₚ ∧ gs_SD β η p Ir Jr I A z Iₚ Aₚ
def gs_CV (I0 : gr_I) (A0 : gc_A) (I : gr_I) (A : gc_A) : Prop := gs_CK I0 A0 I A ∧ gs_CD I0 A0 I A
def gs_RKV (Ir0 Ir : gr_I) : Prop := gs_RK Ir0 Ir ∧ gr_PTs Ir0 Ir ∧ gs_RE9 Ir0 Ir
def gs_RbV (Ir : gr_I) : Prop := gs_Rb Ir ∧ gs_Rb9 Ir
section RV9
variable {B : Int} {β : Int → Int} {η p z : Int} {sh shₚ : gz_Sh} {ro ro' : Nat → Nat} {i t a s : Nat} {I Iₚ I8 I0 : gr_I} {J Jₚ : gr_J} {A Aₚ A0 : gc_A} {Ir Irₚ Ir0 : gr_I} {Jr Jrₚ : gr_J}
theorem gs_SCV_s (hs : gh_HS sh ro I J A) (l : gc_PKs I Iₚ) (h8 : Iₚ 8 1 = I 8 1) (f : ∀ q j : Nat, 144 ≤ q → Iₚ q j = I q j) : gs_SCV β η p Ir Jr I A z Iₚ A := ⟨gs_SC_s hs l h8 f, gs_SD_s hs h8 f⟩
theorem gs_SCV_n (hs : gh_HS sh ro I J A) (f : ∀ q j : Nat, ¬ q = 39 → ¬ q = 23 → Iₚ q j = I q j) (h8 : Iₚ 8 1 = I 8 1) (h17 : Iₚ 1 17 = I 1 17) : gs_SCV β η p Ir Jr I A z Iₚ A := ⟨gs_SC_n hs f h8 h17, gs_SD_s hs h8 (fun q j h => f q j (by omega) (by omega))⟩
theorem gs_SCV_pre (f : ∀ q j : Nat, ¬ q = 39 → ¬ q = 23 → I8 q j = I q j) (h8 : I8 8 1 = I 8 1) (h17 : I8 1 17 = I 1 17) (h5 : I8 1 5 = I 1 5) (hs : gh_HS sh ro I J A) (h : gs_SCV β η p Ir Jr I8 A z Iₚ Aₚ) : gs_SCV β η p Ir Jr I A z Iₚ Aₚ := ⟨gs_SC_pre f h8 h17 h5 hs h.1, gs_SD_pre f h8 h5 hs h.2⟩
theorem gs_SCV_80 (hs : gh_HS sh ro I J A) (hR : gh_RS B sh ro I A z a s shₚ ro' Iₚ Jₚ Aₚ) (hP : gs_RTp β η (gs_X β η p) Ir Jr sh I J A z Iₚ Jₚ Aₚ) : gs_SCV β η p Ir Jr I A z Iₚ Aₚ := ⟨gs_SC_80 hs hR hP, gs_SD_80 hs hR hP⟩
theorem gs_SCV_88 (hs : gh_HS sh ro I J A) (hi : (i : Int) < I 8 1) (ht : A 10 i = some t) (hR : gc_RL B sh ro I J A t z a s shₚ ro' Iₚ Jₚ Aₚ) (hP : gs_RLp β η (gs_X β η p) Ir Jr I t z Iₚ Jₚ Aₚ) : gs_SCV β η p Ir Jr I A z Iₚ Aₚ := ⟨gs_SC_88 hs hi ht hR hP, gs_SD_88 hs hi ht hR hP⟩
theorem gs_RbV_of (hs : gh_HS sh ro I J A) (hR : gs_R I J A Ir Jr) : gs_RbV Ir := ⟨gs_Rb_of hs hR, gs_Rb9_of hs hR⟩
theorem gs_h8_of (hs : gh_HS sh ro I J A) : I 8 1 ≤ 8 := (show 0 ≤ I 8 1 ∧ I 8 1 ≤ 8 from gc_in hs.2.1 (gc_bR hs.1 (by decide) rfl) rfl rfl).2
/-- nothing of it is touched -/
theorem gs_RW_fr (h : gs_RW I A Ir) (hR : gs_R I J A Ir Jr) (b8 : I 8 1 ≤ 8) (h8 : Iₚ 8 1 = I 8 1) (l : gc_PKs I Iₚ) (ht : ∀ i t : Nat, (i : Int) < I 8 1 → Aₚ 10 i = some t → A 10 i = some t ∧ gs_cD t I Iₚ) (lr : gr_LV Ir Irₚ) (f3 : Irₚ 0 3 = Ir 0 3) (rr : ∀ a : Nat, [17, 31, 32, 33, 34, 36, 37, 38, 39, 40].elem a = true → ∀ j, Irₚ a j = Ir a j) : gs_RW Iₚ Aₚ Irₚ := gs_RW_kp h hR h8 b8 l (fun i t hi hA => by
    obtain ⟨a, c⟩ := ht i t hi hA
    exact ⟨a, gs_kD_s c, c.1.1, c.2.1⟩) lr.1 lr.2 (fun i _ _ => ⟨⟨by rw [rr 17 rfl]; exact Int.le_refl _, fun f _ _ => rr 31 rfl _, fun f _ _ j _ _ => ⟨rr 32 rfl _, rr 33 rfl _, rr 34 rfl _⟩⟩, fun w _ _ => ⟨⟨⟨rr 36 rfl _, rr 37 rfl _⟩, rr 39 rfl _, rr 40 rfl _⟩, fun k _ => rr 38 rfl _⟩⟩) (by rw [f3]; exact Int.le_refl _) (gs_PDa_kp h.1 lr.1 lr.2 (rr 17 rfl) (rr 31 rfl) (rr 33 rfl) (rr 34 rfl))
theorem gs_rr9 {m : List Nat} (ts : gs_TsX m Ir Jr Irₚ Jrₚ) (hm : ([31, 32, 33, 34, 36, 37, 38, 39, 40].all (fun a => !(m.elem a))) = true) : ∀ a : Nat, [31, 32, 33, 34, 36, 37, 38, 39, 40].elem a = true → ∀ j, Irₚ a j = Ir a j := fun a ha j => by
  have h3 := List.all_eq_true.mp hm a (List.elem_iff.mp ha)
  rw [Bool.not_eq_true'] at h3
  exact ts.2.1 a (List.elem_iff.mpr ((show ∀ x ∈ [31, 32, 33, 34, 36, 37, 38, 39, 40], x ∈ [6, 7, 8, 9, 10, 11, 12, 13, 14, 15, 16, 17, 18, 19, 24, 25, 26, 27, 28, 29, 30, 31, 32, 33, 34, 36, 37, 38, 39, 40, 41, 60] by decide) a (List.elem_iff.mp ha))) h3 j
theorem gs_RV_u (h : gs_RV I A Ir) (hR : gs_R I J A Ir Jr) (hs : gh_HS sh ro I J A) (f : ∀ q j : Nat, ¬ q = 39 → ¬ q = 23 → Iₚ q j = I q j) (h8 : Iₚ 8 1 = I 8 1) (h17 : Iₚ 1 17 = I 1 17) : gs_RV Iₚ A Ir := ⟨gs_RS_u h.1 hR hs f h8 h17, gs_RW_fr h.2 hR (gs_h8_of hs) h8 (gc_PKs_fr gc_PKs_rf h17 (fun k => f 20 k (by decide) (by decide))) (fun i t hi hA => ⟨hA, gs_cD_of (fun q j h => f q j (by omega) (by omega)) (gs_hT9 hs hi hA).2⟩) gr_LV_rf rfl (fun _ _ _ => rfl)⟩
theorem gs_RW_ts {m : List Nat} (h : gs_RW I A Ir) (hR : gs_R I J A Ir Jr) (b8 : I 8 1 ≤ 8) (ts : gs_TsX m Ir Jr Irₚ Jrₚ) (hm : ([17, 31, 32, 33, 34, 36, 37, 38, 39, 40].all (fun a => !(m.elem a)) && !(m.elem 103)) = true) (l : gr_LV Ir Irₚ) : gs_RW I A Irₚ := by
  rw [Bool.and_eq_true] at hm
  obtain ⟨h1, h2⟩ := hm
  refine gs_RW_fr h hR b8 rfl gc_PKs_rf (fun i t _ hA => ⟨hA, ⟨rfl, fun _ => rfl, fun _ => rfl⟩, rfl, fun _ => rfl⟩) l (ts.1 3 rfl (by simpa using h2)) (fun a ha j => ?_)
  have h3 := List.all_eq_true.mp h1 a (List.elem_iff.mp ha)
  rw [Bool.not_eq_true'] at h3
  have h4 : [6, 7, 8, 9, 10, 11, 12, 13, 14, 15, 16, 17, 18, 19, 24, 25, 26, 27, 28, 29, 30, 31, 32, 33, 34, 36, 37, 38, 39, 40, 41, 60].elem a = true := by
    have h5 := List.elem_iff.mp ha
    exact List.elem_iff.mpr ((show ∀ x ∈ [17, 31, 32, 33, 34, 36, 37, 38, 39, 40], x ∈ [6, 7, 8, 9, 10, 11, 12, 13, 14, 15, 16, 17, 18, 19, 24, 25, 26, 27, 28, 29, 30, 31, 32, 33, 34, 36, 37, 38, 39, 40, 41, 60] by decide) a h5)
  exact ts.2.1 a h4 h3 j
theorem gs_RV_st (hR : gs_R I J A Ir Jr) (hR' : gs_R Iₚ Jₚ Aₚ Irₚ Jrₚ) (h : gs_RV I A Ir) (sc : gs_SCV β η p Ir Jr I A 1 Iₚ Aₚ) (u : gs_STU β η p Ir Jr Irₚ Jrₚ) (lk : gr_LV Ir Irₚ) (b : gs_RbV Ir) (b' : gs_RbV Irₚ) (hc : gs_K6 (gs_rn β η p) → 0 ≤ Ir 0 6) (h8 : Iₚ 8 1 ≤ 8) : gs_RV Iₚ Aₚ Irₚ := ⟨gs_RS_st hR hR' h.1 sc.1 u lk.1 b.1 b'.1 hc h8, gs_RW_st hR hR' h.2 sc.1.1 sc.2 u lk.1 lk.2 b.2 b'.2 hc h8 (gs_f3_st u)⟩
theorem gs_CV_st (h : gs_CV I0 A0 I A) (sc : gs_SCV β η p Ir Jr I A z Iₚ Aₚ) (h8 : I 8 1 ≤ Iₚ 8 1) : gs_CV I0 A0 Iₚ Aₚ := ⟨gs_CK_st h.1 sc.1 h8, gs_CD_st h.2 sc.2 h8⟩
theorem gs_RKV_rf : gs_RKV Ir Ir := ⟨gs_RK_rf, gr_PTs_rf, gs_RE9_rf⟩
theorem gs_RKV_ts {m : List Nat} (h : gs_RKV Ir0 Ir) (ts : gs_TsX m Ir Jr Irₚ Jrₚ) (hm : (([15, 16, 26, 27, 28, 29, 30].all (fun a => !(m.elem a))) && ([17, 31, 32, 33, 34, 36, 37, 38, 39, 40].all (fun a => !(m.elem a)) && (!(m.elem 18) && !(m.elem 103)))) = true) (l : gr_LV Ir Irₚ) : gs_RKV Ir0 Irₚ := by
  rw [Bool.and_eq_true] at hm
  exact ⟨gs_RK_ts h.1 ts hm.1 l.1, gr_PTs_tr h.2.1 l.2, gs_RE9_ts h.2.2 ts hm.2⟩
theorem gs_RKV_st (h : gs_RKV Ir0 Ir) (u : gs_STU β η p Ir Jr Irₚ Jrₚ) (lk : gr_LV Ir Irₚ) (b : gs_RbV Ir) (b' : gs_RbV Irₚ) (hc : gs_K6 (gs_rn β η p) → 0 ≤ Ir 0 6) : gs_RKV Ir0 Irₚ := ⟨gs_RK_st h.1 u lk.1 b.1 b'.1 hc, gr_PTs_tr h.2.1 lk.2, gs_RE9_st h.2.2 u b.2 b'.2 hc⟩
end RV9
