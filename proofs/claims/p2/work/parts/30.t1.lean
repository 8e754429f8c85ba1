theorem r_low {ws0 : List Cond} {tb : String → gz_T} (htb : tb RX13 = gr_T) {d : Nat} (ext : gz_Sh) (I : gr_I) (J : gr_J) (k : Int) (hk : 0 ≤ k ∧ k ≤ 2000) (hN : 0 ≤ I 0 69 ∧ I 0 69 ≤ 1000) (hB : ∀ j, -128 ≤ I 57 j ∧ I 57 j ≤ 127) : ∃ r h', gz_Ev ws0 tb (d + 1) (yX13_low, cX13_low, 2, some .boolean) [.inr (.inr (some 0)), .inl k] (gr_sh ++ ext) (gr_h I J) r (gr_sh ++ ext) h' 0 0 ∧ (h' = gr_h I J ∧ r = some (.inl (if k < I 0 69 ∧ 97 ≤ I 57 k.toNat ∧ I 57 k.toNat ≤ 122 then 1 else 0))) := by
  have hD : gv_D (gr_E ws0 tb d (yX13_low, cX13_low, 2, some .boolean) kX13_low) := gq_ok oX13_low
  have hb := hB k.toNat
  refine gr_ev (l := kX13_low) htb rfl (Nat.le_of_ble_eq_true rfl) ?_
  refine gv_run 3 true hD (pc' := 5) (lv' := [(0, .inr (.inr (some 0))), (1, .inl k)]) (st' := [.inl (I 0 69), .inl k]) (h' := gr_h I J) rfl ⟨⟨⟨trivial, trivial⟩, trivial⟩, trivial⟩ ?_
  refine gv_icmp_ge (t := 34) hD rfl rfl ⟨⟨by omega, by omega⟩, ⟨by omega, by omega⟩⟩ (fun c1 => ?_) (fun c1 => ?_)
  · refine gv_run 1 true hD (pc' := 35) (lv' := [(0, .inr (.inr (some 0))), (1, .inl k)]) (st' := [.inl 0]) (h' := gr_h I J) rfl ⟨trivial, trivial⟩ ?_
    exact gv_zret hD rfl (by omega) ⟨rfl, by rw [if_neg (by omega)]⟩
  · refine gv_run 5 true hD (pc' := 16) (lv' := [(0, .inr (.inr (some 0))), (1, .inl k)]) (st' := [.inl 97, .inl (I 57 k.toNat)]) (h' := gr_h I J) rfl ⟨⟨⟨⟨⟨trivial, trivial⟩, trivial⟩, trivial⟩, ⟨by omega, by omega⟩⟩, trivial⟩ ?_
    refine gv_icmp_lt (t := 34) hD rfl rfl ⟨⟨by omega, by omega⟩, ⟨by omega, by omega⟩⟩ (fun c2 => ?_) (fun c2 => ?_)
    · refine gv_run 1 true hD (pc' := 35) (lv' := [(0, .inr (.inr (some 0))), (1, .inl k)]) (st' := [.inl 0]) (h' := gr_h I J) rfl ⟨trivial, trivial⟩ ?_
      exact gv_zret hD rfl (by omega) ⟨rfl, by rw [if_neg (by omega)]⟩
    · refine gv_run 5 true hD (pc' := 27) (lv' := [(0, .inr (.inr (some 0))), (1, .inl k)]) (st' := [.inl 122, .inl (I 57 k.toNat)]) (h' := gr_h I J) rfl ⟨⟨⟨⟨⟨trivial, trivial⟩, trivial⟩, trivial⟩, ⟨by omega, by omega⟩⟩, trivial⟩ ?_
      refine gv_icmp_gt (t := 34) hD rfl rfl ⟨⟨by omega, by omega⟩, ⟨by omega, by omega⟩⟩ (fun c3 => ?_) (fun c3 => ?_)
      · refine gv_run 1 true hD (pc' := 35) (lv' := [(0, .inr (.inr (some 0))), (1, .inl k)]) (st' := [.inl 0]) (h' := gr_h I J) rfl ⟨trivial, trivial⟩ ?_
        exact gv_zret hD rfl (by omega) ⟨rfl, by rw [if_neg (by omega)]⟩
      · refine gv_run 2 true hD (pc' := 35) (lv' := [(0, .inr (.inr (some 0))), (1, .inl k)]) (st' := [.inl 1]) (h' := gr_h I J) rfl ⟨⟨trivial, trivial⟩, trivial⟩ ?_
        exact gv_zret hD rfl (by omega) ⟨rfl, by rw [if_pos (by omega)]⟩
