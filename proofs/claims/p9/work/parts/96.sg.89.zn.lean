/-! OVER A WHOLE SCRIPT: after n calls the House keeps what it keeps, and what was made so far (cells a, slots s) is bounded. -/
def gk_St (n : Nat) (a s : Nat) (sh : gz_Sh) (ro : Nat → Nat) (I : gr_I) (J : gr_J) (A : gc_A) : Prop := gh_HS sh ro I J A ∧ gh_HC sh ro A I ∧ I 1 17 + I 23 1 ≤ 20 * (n : Int) ∧ I 100 9 ≤ (n : Int) ∧
  (sh.length : Int) + 25 * (gh_nl A : Int) + 9 * I 23 1 ≤ 344 + 180 * (n : Int) ∧ (a : Int) + 25 * (gh_nl A : Int) + 9 * I 23 1 ≤ 200 + 180 * (n : Int) ∧ (s : Int) + 45714 * (gh_nl A : Int) + 82 * I 23 1 ≤ 365712 + 1640 * (n : Int)
theorem gk_tp {sh : gz_Sh} {ro : Nat → Nat} {I : gr_I} {J : gr_J} {A : gc_A} (hs : gh_HS sh ro I J A) : 0 ≤ I 23 1 ∧ I 23 1 ≤ 1000 := gc_in hs.2.1 (gc_bR hs.1 (by decide) rfl) rfl rfl
theorem gk_kp {n a s : Nat} {sh : gz_Sh} {ro : Nat → Nat} {I Iₚ : gr_I} {J Jₚ : gr_J} {A : gc_A} {tp : Int} {ν : Nat} (h : gk_St n a s sh ro I J A) (k : gh_K sh ro A I J Iₚ Jₚ tp ν) (ht : tp ≤ I 23 1 + 20) : gk_St (n + 1) a s sh ro Iₚ Jₚ A := by
  obtain ⟨hs, hc, h1, h2, h3, h4, h5⟩ := h
  obtain ⟨k1, k2, k3, k4, k5, k6, _⟩ := k
  have e1 := k3.1 1 17 (by decide) (by decide)
  exact ⟨k1, k2, by omega, by omega, by omega, by omega, by omega⟩
theorem gk_th {n a s : Nat} {sh : gz_Sh} {ro : Nat → Nat} {I : gr_I} {J : gr_J} {A : gc_A} (h : gk_St n a s sh ro I J A) : gk_St (n + 1) (a + 1) (s + 6) sh ro I J A := by
  obtain ⟨hs, hc, h1, h2, h3, h4, h5⟩ := h
  exact ⟨hs, hc, by omega, by omega, by omega, by omega, by omega⟩
theorem gk_ad {n a s a1 s1 : Nat} {sh shₚ : gz_Sh} {ro ro' : Nat → Nat} {I Iₚ : gr_I} {J Jₚ : gr_J} {A Aₚ : gc_A} (h : gk_St n a s sh ro I J A) (k : gh_AD sh ro I A a1 s1 shₚ ro' Iₚ Jₚ Aₚ) : gk_St (n + 1) (a + a1) (s + s1) shₚ ro' Iₚ Jₚ Aₚ := by
  obtain ⟨hs, hc, h1, h2, h3, h4, h5⟩ := h
  obtain ⟨k1, k2, k3, k4, ⟨k5, k6, k7⟩, k8, k9, k10⟩ := k
  have h144 := gc_Base_len hs.1
  have t0 := gz_hi (gk_tp hs)
  have e1 := (k9 1 17 (by (/-0-/first | omega | (simp only [gz_hd] at *; omega)))).resolve_left (by (/-1-/first | omega | (simp only [gz_hd] at *; omega)))
  have en : gh_nl Aₚ = gh_nl A := by
    unfold gh_nl
    rw [k10 10 0 (by decide), k10 10 1 (by decide), k10 10 2 (by decide), k10 10 3 (by decide), k10 10 4 (by decide), k10 10 5 (by decide), k10 10 6 (by decide), k10 10 7 (by decide)]
  exact ⟨k1, k2, by (/-2-/first | (have o1 := gz_sh t0; omega) | (simp only [gz_hd] at *; omega)), by (/-3-/first | omega | (simp only [gz_hd] at *; omega)), by (/-4-/first | (have o1 := gz_sh t0; omega) | (simp only [gz_hd] at *; omega)), by (/-5-/first | (have o1 := gz_sh t0; omega) | (simp only [gz_hd] at *; omega)), by (/-6-/first | (have o1 := gz_sh t0; omega) | (simp only [gz_hd] at *; omega))⟩
theorem gk_mo {n a s a1 s1 : Nat} {z : Int} {sh shₚ : gz_Sh} {ro ro' : Nat → Nat} {I Iₚ : gr_I} {J Jₚ : gr_J} {A Aₚ : gc_A} (h : gk_St n a s sh ro I J A) (hc' : gh_HC shₚ ro' Aₚ Iₚ) (k : gh_MO (I 1 17 + I 23 1) sh ro I A z shₚ ro' Iₚ Jₚ Aₚ) (hk : a1 + 25 * gh_nl Aₚ ≤ 25 * gh_nl A + 9 * (Int.toNat (I 23 1) + 1) ∧ s1 + 45714 * gh_nl Aₚ ≤ 45714 * gh_nl A + 82 * (Int.toNat (I 23 1) + 1) ∧ shₚ.length + 25 * gh_nl Aₚ ≤ sh.length + 25 * gh_nl A + 9 * (Int.toNat (I 23 1) + 1)) : gk_St (n + 1) (a + a1) (s + s1) shₚ ro' Iₚ Jₚ Aₚ := by
  obtain ⟨hs, hc, h1, h2, h3, h4, h5⟩ := h
  obtain ⟨k1, k2, _, k4, k5⟩ := k
  have t0 := gz_hi (gk_tp hs)
  have e9 := (k2.2.1 100 9 (by decide)).resolve_left (by unfold gh_mw; (/-0-/first | omega | (simp only [gz_hd] at *; omega)))
  exact ⟨k1, hc', by (/-1-/first | omega | (simp only [gz_hd] at *; omega)), by (/-2-/first | omega | (simp only [gz_hd] at *; omega)), by (/-3-/first | (have o1 := gz_sh t0; omega) | (simp only [gz_hd] at *; omega)), by (/-4-/first | (have o1 := gz_sh t0; omega) | (simp only [gz_hd] at *; omega)), by (/-5-/first | (have o1 := gz_sh t0; omega) | (simp only [gz_hd] at *; omega))⟩
theorem gk_nl0 : gh_nl gk_A0 = 8 := by decide +kernel
/-- before the first call -/
theorem gk_st0 : gk_St 0 0 0 gc_bs gk_r0 gk_I0 gk_J0 gk_A0 := by
  have h1 : gk_I0 1 17 = 0 := rfl
  have h2 : gk_I0 23 1 = 0 := rfl
  have h3 : gk_I0 100 9 = 0 := rfl
  have h4 := gk_nl0
  have h5 := gk_len
  exact ⟨gk_HS, gk_HC, by omega, by omega, by omega, by omega, by omega⟩
/-- module, add: what they ask is there within 64 calls -/
theorem gk_mok {n a s : Nat} {sh : gz_Sh} {ro : Nat → Nat} {I : gr_I} {J : gr_J} {A : gc_A} (h : gk_St n a s sh ro I J A) (hn : n ≤ 64) : I 1 17 + I 23 1 ≤ 1280 ∧ sh.length + 25 * gh_nl A + 9 * (Int.toNat (I 23 1) + 1) ≤ 999000 := by
  obtain ⟨hs, hc, h1, h2, h3, h4, h5⟩ := h
  have t0 := gk_tp hs
  exact ⟨by omega, by omega⟩
theorem gk_aok {n a s : Nat} {sh : gz_Sh} {ro : Nat → Nat} {I : gr_I} {J : gr_J} {A : gc_A} (h : gk_St n a s sh ro I J A) (hn : n ≤ 64) : I 100 9 ≤ 99 ∧ sh.length + 1 ≤ 1000000 := by
  obtain ⟨hs, hc, h1, h2, h3, h4, h5⟩ := h
  have t0 := gk_tp hs
  exact ⟨by omega, by omega⟩
