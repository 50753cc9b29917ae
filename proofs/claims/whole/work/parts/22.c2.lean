set_option maxHeartbeats 4000000 in
set_option maxRecDepth 100000 in
/-- countDelivery -/
theorem t_X0_countDelivery (l : Launch) (D : va_G) (ki : Nat → ClassId) (g : Nat → Nat) (u : CS) (sz : Nat) (part to k : Nat) (hk : c_k u = nI k) (hk1 : 0 < k) (hk4 : k ≤ 4) (hp : part < 12) (ht : to < 12) : gMv l yX0_countDelivery wsX0_countDelivery ({ frames := 1, cells := 0, slots := 0, locals := 21 }) D (cw ki g) (cty ki) u sz [.ref (g 0), .int (nI part), .int (nI to)] (fun u' => u' = cs_q u (C_cnt k part to (c_q u))) := by
  refine g_ofv (cc := cX0_countDelivery) (maxL := 3) (ret := none) (own := RX0) (by decide) rfl rfl ?_
  intro p e s m below meth c A hx hb hr hlocks hml hts hown hK hD hA H locs hP hS
  have hl := lv_entry ([.ref (g 0), .int (nI part), .int (nI to)]) (n := 3) (Nat.le_of_ble_eq_true rfl)
  rw [lg_entry_eq]
  generalize (lg_sl ([.ref (g 0), .int (nI part), .int (nI to)]) ++ List.replicate (3 - (lg_sl ([.ref (g 0), .int (nI part), .int (nI to)])).length) Slot.unset).toArray = ls at hl ⊢
  have hl : lv_has ls 3 [(0, .ref (g 0)), (1, .int (nI part)), (2, .int (nI to))] := hl
  have hf_49 := hts (.fieldLink RX0 49 "StepGraph" "waitingCount" "I") (by decide +kernel)
  have hf_58 := hts (.fieldLink RX0 58 "StepGraph" "deliveredCount" "I") (by decide +kernel)
  have hf_61 := hts (.fieldLink RX0 61 "StepGraph" "crossedCount" "I") (by decide +kernel)
  have hin : ∀ w ∈ wsX00, w ∈ wsX0_countDelivery := by decide +kernel
  have hm : to % k < k := Nat.mod_lt _ hk1
  refine lv_aload_n hx hb dX0_countDelivery_0 rfl (lv_at hl 0 rfl) ?_
  refine lv_dup hx hb dX0_countDelivery_1 rfl ?_
  refine c_get (u := u) hx hb hts hin hown hK hP 11 (by decide) rfl hf_49 (.int (c_wc u)) rfl dX0_countDelivery_2 ?_
  refine lv_iconst (v := 1) hx hb dX0_countDelivery_5 (by decide) ?_
  refine lv_iadd hx hb dX0_countDelivery_6 ?_
  refine c_put (u := u) hx hb hts hin hown hK hP hD hS 11 (by decide) rfl rfl hf_49 .int (by decide +kernel) rfl rfl (cs_wc u ((c_wc u) + 1)) rfl dX0_countDelivery_7 (fun H locs hP hD hS => ?_)
  refine lv_aload_n hx hb dX0_countDelivery_10 rfl (lv_at hl 0 rfl) ?_
  refine lv_dup hx hb dX0_countDelivery_11 rfl ?_
  refine c_get (u := cs_wc u ((c_wc u) + 1)) hx hb hts hin hown hK hP 14 (by decide) rfl hf_58 (.int (c_de u)) rfl dX0_countDelivery_12 ?_
  refine lv_iconst (v := 1) hx hb dX0_countDelivery_15 (by decide) ?_
  refine lv_iadd hx hb dX0_countDelivery_16 ?_
  refine c_put (u := cs_wc u ((c_wc u) + 1)) hx hb hts hin hown hK hP hD hS 14 (by decide) rfl rfl hf_58 .int (by decide +kernel) rfl rfl (cs_de (cs_wc u ((c_wc u) + 1)) ((c_de u) + 1)) rfl dX0_countDelivery_17 (fun H locs hP hD hS => ?_)
  refine lv_aload_n hx hb dX0_countDelivery_20 rfl (lv_at hl 0 rfl) ?_
  refine lv_iload_n hx hb dX0_countDelivery_21 rfl (lv_at hl 2 rfl) ?_
  refine g_calli (w := cw ki g) (u := cs_de (cs_wc u ((c_wc u) + 1)) ((c_de u) + 1)) (As := [.int (nI to)]) (rest := []) ⟨hx, hb, hml, hown, hts⟩ (t_X0_partOf l D ki g (cs_de (cs_wc u ((c_wc u) + 1)) ((c_de u) + 1)) H.size to k hk hk1 hk4 ht) (cwV 1 hts gX0_countDelivery_X0_partOf rfl rfl rfl (by decide +kernel) ⟨Nat.le_of_ble_eq_true rfl, Nat.le_of_ble_eq_true rfl⟩) hK hP hD hS hA rfl rfl (cw_0 ki g (cs_de (cs_wc u ((c_wc u) + 1)) ((c_de u) + 1))) rfl hl.1 rfl (Nat.le_of_ble_eq_true rfl) dX0_countDelivery_22 ⟨Nat.zero_le _, Nat.zero_le _⟩ (fun r1 u' H locs hw hP hD hS => ?_)
  obtain ⟨rfl, rfl⟩ := hw
  refine lv_iload_n hx hb dX0_countDelivery_25 rfl (lv_at hl 1 rfl) ?_
  refine lv_icmp_eq (tgt := 39) hx hb dX0_countDelivery_26 (by decide) (fun c2 => ?_) (fun c2 => ?_)
  · have c2 := (nI_eq (by omega) (by omega)).mp c2
    exact W.vret hx hb hr (fun t ht hW => ⟨⟨(cs_de (cs_wc u ((c_wc u) + 1)) ((c_de u) + 1)), rfl, (by simp only [C_cnt, cs_q, c_q, if_pos c2] <;> rfl), by rw [ht]; exact hP, va_K.moved hW.alike hK, hD⟩, hS.F ht⟩) hS.2.2 dX0_countDelivery_39
  · have c2 : ¬ to % k = part := fun q => c2 (by rw [q])
    refine lv_aload_n hx hb dX0_countDelivery_29 rfl (lv_at hl 0 rfl) ?_
    refine lv_dup hx hb dX0_countDelivery_30 rfl ?_
    refine c_get (u := cs_de (cs_wc u ((c_wc u) + 1)) ((c_de u) + 1)) hx hb hts hin hown hK hP 15 (by decide) rfl hf_61 (.int (c_cr u)) rfl dX0_countDelivery_31 ?_
    refine lv_iconst (v := 1) hx hb dX0_countDelivery_34 (by decide) ?_
    refine lv_iadd hx hb dX0_countDelivery_35 ?_
    refine c_put (u := cs_de (cs_wc u ((c_wc u) + 1)) ((c_de u) + 1)) hx hb hts hin hown hK hP hD hS 15 (by decide) rfl rfl hf_61 .int (by decide +kernel) rfl rfl (cs_cr (cs_de (cs_wc u ((c_wc u) + 1)) ((c_de u) + 1)) ((c_cr u) + 1)) rfl dX0_countDelivery_36 (fun H locs hP hD hS => ?_)
    exact W.vret hx hb hr (fun t ht hW => ⟨⟨(cs_cr (cs_de (cs_wc u ((c_wc u) + 1)) ((c_de u) + 1)) ((c_cr u) + 1)), rfl, (by simp only [C_cnt, cs_q, c_q, if_neg c2] <;> rfl), by rw [ht]; exact hP, va_K.moved hW.alike hK, hD⟩, hS.F ht⟩) hS.2.2 dX0_countDelivery_39

set_option maxHeartbeats 4000000 in
set_option maxRecDepth 100000 in
/-- bestWaiting -/
theorem t_X0_bestWaiting (l : Launch) (D : va_G) (ki : Nat → ClassId) (g : Nat → Nat) (u : CS) (sz : Nat) (v k : Nat) (hk : c_k u = nI k) (hk1 : 0 < k) (hk4 : k ≤ 4) (hv : v < 12) : gMd l yX0_bestWaiting wsX0_bestWaiting ({ frames := 1, cells := 0, slots := 0, locals := 24 }) D (cw ki g) (cty ki) u sz [.ref (g 0), .int (nI v)] (fun r u' => r = C_best (c_pr u) k (c_wa u v) ∧ u' = u) := by
  refine g_ofd (cc := cX0_bestWaiting) (maxL := 5) (ret := some .double) (own := RX0) (by decide) rfl rfl ?_
  intro p e s m below meth c A hx hb hr hlocks hml hts hown hK hD hA H locs hP hS
  have hl := lv_entry ([.ref (g 0), .int (nI v)]) (n := 5) (Nat.le_of_ble_eq_true rfl)
  rw [lg_entry_eq]
  generalize (lg_sl ([.ref (g 0), .int (nI v)]) ++ List.replicate (5 - (lg_sl ([.ref (g 0), .int (nI v)])).length) Slot.unset).toArray = ls at hl ⊢
  have hl : lv_has ls 5 [(0, .ref (g 0)), (1, .int (nI v))] := hl
  have hf_27 := hts (.fieldLink RX0 27 "StepGraph" "partCount" "I") (by decide +kernel)
  have hf_39 := hts (.fieldLink RX0 39 "StepGraph" "waiting" "[[D") (by decide +kernel)
  have hk_88 := hts (.constantDouble RX0 88 (13830554455654793216)) (by decide +kernel)
  have hin : ∀ w ∈ wsX00, w ∈ wsX0_bestWaiting := by decide +kernel
  refine lv_ldc2d hx hb hown hk_88 dX0_bestWaiting_0 ?_
  refine lv_dstore_n (lv' := [(2, .double NN), (0, .ref (g 0)), (1, .int (nI v))]) hx hb dX0_bestWaiting_3 rfl hl (by decide) rfl (fun ls hl => ?_)
  refine lv_iconst (v := 0) hx hb dX0_bestWaiting_4 (by decide) ?_
  refine lv_istore (lv' := [(4, .int 0), (2, .double NN), (0, .ref (g 0)), (1, .int (nI v))]) hx hb dX0_bestWaiting_5 hl (by decide) rfl (fun ls hl => ?_)
  have loop : ∀ (r i : Nat), i + r = k → ∀ (H : Heap) (locs : List Loc) (ls : Array Slot), va_P D vwCl (cw ki g (u)) H → va_D A (cw ki g (u)) → va_S A s.heap H locs → lv_has ls 5 [(4, .int (nI (i))), (2, .double (fo (C_bs (c_pr u) (c_wa u v)) (i) NN)), (0, .ref (g 0)), (1, .int (nI v))] → W p l e (headSpec wsX0_bestWaiting { frames := 1, cells := 0, slots := 0, locals := 24 }).room s m ([.ref (g 0), .int (nI v)] : List Value).toArray below meth c H locs 0 0 (MQ below (va_Qd (fun r u' => r = C_best (c_pr u) k (c_wa u v) ∧ u' = u) (gQ D (cw ki g) (cty ki) A) A) ([.ref (g 0), .int (nI v)] : List Value).toArray s 0 0 A) (F0 m 7 ls []) := by
    intro r
    induction r with
    | zero =>
      intro i hii H locs ls hP hD hS hl 
      have hii : k = i := by omega
      subst hii
      refine lv_iload hx hb dX0_bestWaiting_7 (lv_at hl 0 rfl) ?_
      refine lv_aload_n hx hb dX0_bestWaiting_9 rfl (lv_at hl 2 rfl) ?_
      refine c_get (u := u) hx hb hts hin hown hK hP 5 (by decide) rfl hf_27 (.int (nI k)) (congrArg (fun z => some (Value.int z)) hk) dX0_bestWaiting_10 ?_
      refine lv_icmp_ge (tgt := 49) hx hb dX0_bestWaiting_13 (by decide) (fun c1 => ?_) (fun c1 => absurd (Int32.le_refl _) c1)
      refine lv_dload_n hx hb dX0_bestWaiting_49 rfl (lv_at hl 1 rfl) ?_
      exact W.dret (v := fo (C_bs (c_pr u) (c_wa u v)) (k) NN) hx hb hr (fun t ht hW => ⟨⟨(fo (C_bs (c_pr u) (c_wa u v)) (k) NN), u, rfl, ⟨rfl, rfl⟩, by rw [ht]; exact hP, va_K.moved hW.alike hK, hD⟩, hS.F ht⟩) hS.2.2 dX0_bestWaiting_50
    | succ r ih =>
      intro i hii H locs ls hP hD hS hl 
      refine lv_iload hx hb dX0_bestWaiting_7 (lv_at hl 0 rfl) ?_
      refine lv_aload_n hx hb dX0_bestWaiting_9 rfl (lv_at hl 2 rfl) ?_
      refine c_get (u := u) hx hb hts hin hown hK hP 5 (by decide) rfl hf_27 (.int (nI k)) (congrArg (fun z => some (Value.int z)) hk) dX0_bestWaiting_10 ?_
      refine lv_icmp_ge (tgt := 49) hx hb dX0_bestWaiting_13 (by decide) (fun c2 => absurd c2 (nI_ge (b := k) (by omega) (by omega))) (fun c2 => ?_)
      refine lv_aload_n hx hb dX0_bestWaiting_16 rfl (lv_at hl 2 rfl) ?_
      refine lv_aload_n hx hb dX0_bestWaiting_17 rfl (lv_at hl 2 rfl) ?_
      refine c_get (u := u) hx hb hts hin hown hK hP 8 (by decide) rfl hf_39 (.ref (g 6)) rfl dX0_bestWaiting_18 ?_
      refine lv_iload_n hx hb dX0_bestWaiting_21 rfl (lv_at hl 3 rfl) ?_
      refine c_row (u := u) hx hb hK hP (v := v) (by omega) dX0_bestWaiting_22 ?_
      refine lv_iload hx hb dX0_bestWaiting_23 (lv_at hl 0 rfl) ?_
      refine c_rowld (u := u) hx hb hK hP (v := v) (q := i) (by omega) (by omega) dX0_bestWaiting_25 ?_
      refine lv_dload_n hx hb dX0_bestWaiting_26 rfl (lv_at hl 1 rfl) ?_
      refine g_calli (w := cw ki g) (u := u) (As := [.double ((c_wa u) v i), .double (fo (C_bs (c_pr u) (c_wa u v)) (i) NN)]) (rest := []) ⟨hx, hb, hml, hown, hts⟩ (t_X0_isBetter l D ki g (u) H.size ((c_wa u) v i) (fo (C_bs (c_pr u) (c_wa u v)) (i) NN) ) (cwV 2 hts gX0_bestWaiting_X0_isBetter rfl rfl rfl (by decide +kernel) ⟨Nat.le_of_ble_eq_true rfl, Nat.le_of_ble_eq_true rfl⟩) hK hP hD hS hA rfl rfl (cw_0 ki g (u)) rfl hl.1 rfl (Nat.le_of_ble_eq_true rfl) dX0_bestWaiting_27 ⟨Nat.zero_le _, Nat.zero_le _⟩ (fun r3 u' H locs hw hP hD hS => ?_)
      obtain ⟨rfl, rfl⟩ := hw
      have hP : va_P D vwCl (cw ki g (u)) H := hP
      have hD : va_D A (cw ki g (u)) := hD
      refine W.eq (g2 := F0 m 30 ls [.int (b2 (C_bet (c_pr u) ((c_wa u) v i) (fo (C_bs (c_pr u) (c_wa u v)) (i) NN)))]) rfl ?_
      refine lv_if_eq (tgt := 43) hx hb dX0_bestWaiting_30 (by decide) (fun c4 => ?_) (fun c4 => ?_)
      · have c4 := b2_0 c4
        refine lv_iinc (v := nI (i + 1)) (lv' := [(4, .int (nI (i + 1))), (2, .double (fo (C_bs (c_pr u) (c_wa u v)) (i) NN)), (0, .ref (g 0)), (1, .int (nI v))]) hx hb dX0_bestWaiting_43 hl (k := 0) rfl (nI_1 i) (by decide) rfl (fun ls hl => ?_)
        refine lv_goto (tgt := 7) hx hb dX0_bestWaiting_46 (by decide) ?_
        have hL : fo (C_bs (c_pr u) (c_wa u v)) (i + 1) NN = fo (C_bs (c_pr u) (c_wa u v)) (i) NN := by show C_bs _ _ i _ = _; simp only [C_bs, if_neg c4]
        exact ih (i + 1) (by omega) _ _ _ hP hD hS (by rw [hL]; exact lv_sub hl [0, 1, 2, 3] rfl) 
      · have c4 := b2_1 c4
        refine lv_aload_n hx hb dX0_bestWaiting_33 rfl (lv_at hl 2 rfl) ?_
        refine c_get (u := u) hx hb hts hin hown hK hP 8 (by decide) rfl hf_39 (.ref (g 6)) rfl dX0_bestWaiting_34 ?_
        refine lv_iload_n hx hb dX0_bestWaiting_37 rfl (lv_at hl 3 rfl) ?_
        refine c_row (u := u) hx hb hK hP (v := v) (by omega) dX0_bestWaiting_38 ?_
        refine lv_iload hx hb dX0_bestWaiting_39 (lv_at hl 0 rfl) ?_
        refine c_rowld (u := u) hx hb hK hP (v := v) (q := i) (by omega) (by omega) dX0_bestWaiting_41 ?_
        refine lv_dstore_n (lv' := [(2, .double ((c_wa u) v i)), (4, .int (nI (i))), (0, .ref (g 0)), (1, .int (nI v))]) hx hb dX0_bestWaiting_42 rfl hl (by decide) rfl (fun ls hl => ?_)
        refine lv_iinc (v := nI (i + 1)) (lv' := [(4, .int (nI (i + 1))), (2, .double ((c_wa u) v i)), (0, .ref (g 0)), (1, .int (nI v))]) hx hb dX0_bestWaiting_43 hl (k := 1) rfl (nI_1 i) (by decide) rfl (fun ls hl => ?_)
        refine lv_goto (tgt := 7) hx hb dX0_bestWaiting_46 (by decide) ?_
        have hL : fo (C_bs (c_pr u) (c_wa u v)) (i + 1) NN = (c_wa u) v i := by show C_bs _ _ i _ = _; simp only [C_bs, if_pos c4]
        exact ih (i + 1) (by omega) _ _ _ hP hD hS (by rw [hL]; exact lv_sub hl [0, 1, 2, 3] rfl) 
  exact loop (k) 0 (by omega) H locs ls hP hD hS (lv_sub hl [0, 1, 2, 3] rfl) 

set_option maxHeartbeats 4000000 in
set_option maxRecDepth 100000 in
/-- clearWaiting -/
theorem t_X0_clearWaiting (l : Launch) (D : va_G) (ki : Nat → ClassId) (g : Nat → Nat) (u : CS) (sz : Nat) (n k : Nat) (hn : c_n u = nI n) (hn12 : n ≤ 12) (hk : c_k u = nI k) (hk1 : 0 < k) (hk4 : k ≤ 4) : gMv l yX0_clearWaiting wsX0_clearWaiting ({ frames := 0, cells := 0, slots := 0, locals := 0 }) D (cw ki g) (cty ki) u sz [.ref (g 0)] (fun u' => u' = cs_wa (cs_wc u 0) (C_clr n k (c_wa u))) := by
  refine g_ofv (cc := cX0_clearWaiting) (maxL := 3) (ret := none) (own := RX0) (by decide) rfl rfl ?_
  intro p e s m below meth c A hx hb hr hlocks hml hts hown hK hD hA H locs hP hS
  have hl := lv_entry ([.ref (g 0)]) (n := 3) (Nat.le_of_ble_eq_true rfl)
  rw [lg_entry_eq]
  generalize (lg_sl ([.ref (g 0)]) ++ List.replicate (3 - (lg_sl ([.ref (g 0)])).length) Slot.unset).toArray = ls at hl ⊢
  have hl : lv_has ls 3 [(0, .ref (g 0))] := hl
  have hf_20 := hts (.fieldLink RX0 20 "StepGraph" "vertexCount" "I") (by decide +kernel)
  have hf_27 := hts (.fieldLink RX0 27 "StepGraph" "partCount" "I") (by decide +kernel)
  have hf_39 := hts (.fieldLink RX0 39 "StepGraph" "waiting" "[[D") (by decide +kernel)
  have hf_49 := hts (.fieldLink RX0 49 "StepGraph" "waitingCount" "I") (by decide +kernel)
  have hk_88 := hts (.constantDouble RX0 88 (13830554455654793216)) (by decide +kernel)
  have hin : ∀ w ∈ wsX00, w ∈ wsX0_clearWaiting := by decide +kernel
  refine lv_iconst (v := 0) hx hb dX0_clearWaiting_0 (by decide) ?_
  refine lv_istore_n (lv' := [(1, .int 0), (0, .ref (g 0))]) hx hb dX0_clearWaiting_1 rfl hl (by decide) rfl (fun ls hl => ?_)
  have loop : ∀ (r i : Nat), i + r = n → ∀ (H : Heap) (locs : List Loc) (ls : Array Slot), va_P D vwCl (cw ki g (cs_wa u (fo (fun v wa => fo (fun p wa => up2 wa v p NN) k wa) (i) (c_wa u)))) H → va_D A (cw ki g (cs_wa u (fo (fun v wa => fo (fun p wa => up2 wa v p NN) k wa) (i) (c_wa u)))) → va_S A s.heap H locs → lv_has ls 3 [(1, .int (nI (i))), (0, .ref (g 0))] → W p l e (headSpec wsX0_clearWaiting { frames := 0, cells := 0, slots := 0, locals := 0 }).room s m ([.ref (g 0)] : List Value).toArray below meth c H locs 0 0 (MQ below (va_Qv (fun u' => u' = cs_wa (cs_wc u 0) (C_clr n k (c_wa u))) (gQ D (cw ki g) (cty ki) A) A) ([.ref (g 0)] : List Value).toArray s 0 0 A) (F0 m 2 ls []) := by
    intro r
    induction r with
    | zero =>
      intro i hii H locs ls hP hD hS hl 
      have hii : n = i := by omega
      subst hii
      refine lv_iload_n hx hb dX0_clearWaiting_2 rfl (lv_at hl 0 rfl) ?_
      refine lv_aload_n hx hb dX0_clearWaiting_3 rfl (lv_at hl 1 rfl) ?_
      refine c_get (u := cs_wa u (fo (fun v wa => fo (fun p wa => up2 wa v p NN) k wa) (n) (c_wa u))) hx hb hts hin hown hK hP 3 (by decide) rfl hf_20 (.int (nI n)) (congrArg (fun z => some (Value.int z)) hn) dX0_clearWaiting_4 ?_
      refine lv_icmp_ge (tgt := 43) hx hb dX0_clearWaiting_7 (by decide) (fun c1 => ?_) (fun c1 => absurd (Int32.le_refl _) c1)
      refine lv_aload_n hx hb dX0_clearWaiting_43 rfl (lv_at hl 1 rfl) ?_
      refine lv_iconst (v := 0) hx hb dX0_clearWaiting_44 (by decide) ?_
      refine c_put (u := cs_wa u (fo (fun v wa => fo (fun p wa => up2 wa v p NN) k wa) (n) (c_wa u))) hx hb hts hin hown hK hP hD hS 11 (by decide) rfl rfl hf_49 .int (by decide +kernel) rfl rfl (cs_wa (cs_wc u 0) (fo (fun v wa => fo (fun p wa => up2 wa v p NN) k wa) (n) (c_wa u))) rfl dX0_clearWaiting_45 (fun H locs hP hD hS => ?_)
      exact W.vret hx hb hr (fun t ht hW => ⟨⟨(cs_wa (cs_wc u 0) (fo (fun v wa => fo (fun p wa => up2 wa v p NN) k wa) (n) (c_wa u))), rfl, rfl, by rw [ht]; exact hP, va_K.moved hW.alike hK, hD⟩, hS.F ht⟩) hS.2.2 dX0_clearWaiting_48
    | succ r ih =>
      intro i hii H locs ls hP hD hS hl 
      refine lv_iload_n hx hb dX0_clearWaiting_2 rfl (lv_at hl 0 rfl) ?_
      refine lv_aload_n hx hb dX0_clearWaiting_3 rfl (lv_at hl 1 rfl) ?_
      refine c_get (u := cs_wa u (fo (fun v wa => fo (fun p wa => up2 wa v p NN) k wa) (i) (c_wa u))) hx hb hts hin hown hK hP 3 (by decide) rfl hf_20 (.int (nI n)) (congrArg (fun z => some (Value.int z)) hn) dX0_clearWaiting_4 ?_
      refine lv_icmp_ge (tgt := 43) hx hb dX0_clearWaiting_7 (by decide) (fun c2 => absurd c2 (nI_ge (b := n) (by omega) (by omega))) (fun c2 => ?_)
      refine lv_iconst (v := 0) hx hb dX0_clearWaiting_10 (by decide) ?_
      refine lv_istore_n (lv' := [(2, .int 0), (1, .int (nI (i))), (0, .ref (g 0))]) hx hb dX0_clearWaiting_11 rfl hl (by decide) rfl (fun ls hl => ?_)
      have loop2 : ∀ (r j : Nat), j + r = k → ∀ (H : Heap) (locs : List Loc) (ls : Array Slot), va_P D vwCl (cw ki g (cs_wa u (fo (fun p wa => up2 wa i p NN) (j) (fo (fun v wa => fo (fun p wa => up2 wa v p NN) k wa) (i) (c_wa u))))) H → va_D A (cw ki g (cs_wa u (fo (fun p wa => up2 wa i p NN) (j) (fo (fun v wa => fo (fun p wa => up2 wa v p NN) k wa) (i) (c_wa u))))) → va_S A s.heap H locs → lv_has ls 3 [(2, .int (nI (j))), (1, .int (nI i)), (0, .ref (g 0))] → W p l e (headSpec wsX0_clearWaiting { frames := 0, cells := 0, slots := 0, locals := 0 }).room s m ([.ref (g 0)] : List Value).toArray below meth c H locs 0 0 (MQ below (va_Qv (fun u' => u' = cs_wa (cs_wc u 0) (C_clr n k (c_wa u))) (gQ D (cw ki g) (cty ki) A) A) ([.ref (g 0)] : List Value).toArray s 0 0 A) (F0 m 12 ls []) := by
        intro r
        induction r with
        | zero =>
          intro j hij H locs ls hP hD hS hl 
          have hij : k = j := by omega
          subst hij
          refine lv_iload_n hx hb dX0_clearWaiting_12 rfl (lv_at hl 0 rfl) ?_
          refine lv_aload_n hx hb dX0_clearWaiting_13 rfl (lv_at hl 2 rfl) ?_
          refine c_get (u := cs_wa u (fo (fun p wa => up2 wa i p NN) (k) (fo (fun v wa => fo (fun p wa => up2 wa v p NN) k wa) (i) (c_wa u)))) hx hb hts hin hown hK hP 5 (by decide) rfl hf_27 (.int (nI k)) (congrArg (fun z => some (Value.int z)) hk) dX0_clearWaiting_14 ?_
          refine lv_icmp_ge (tgt := 37) hx hb dX0_clearWaiting_17 (by decide) (fun c3 => ?_) (fun c3 => absurd (Int32.le_refl _) c3)
          refine lv_iinc (v := nI (i + 1)) (lv' := [(1, .int (nI (i + 1))), (2, .int (nI (k))), (0, .ref (g 0))]) hx hb dX0_clearWaiting_37 hl (k := 1) rfl (nI_1 i) (by decide) rfl (fun ls hl => ?_)
          refine lv_goto (tgt := 2) hx hb dX0_clearWaiting_40 (by decide) ?_
          exact ih (i + 1) (by omega) _ _ _ hP hD hS (lv_sub hl [0, 2] rfl) 
        | succ r ih =>
          intro j hij H locs ls hP hD hS hl 
          refine lv_iload_n hx hb dX0_clearWaiting_12 rfl (lv_at hl 0 rfl) ?_
          refine lv_aload_n hx hb dX0_clearWaiting_13 rfl (lv_at hl 2 rfl) ?_
          refine c_get (u := cs_wa u (fo (fun p wa => up2 wa i p NN) (j) (fo (fun v wa => fo (fun p wa => up2 wa v p NN) k wa) (i) (c_wa u)))) hx hb hts hin hown hK hP 5 (by decide) rfl hf_27 (.int (nI k)) (congrArg (fun z => some (Value.int z)) hk) dX0_clearWaiting_14 ?_
          refine lv_icmp_ge (tgt := 37) hx hb dX0_clearWaiting_17 (by decide) (fun c4 => absurd c4 (nI_ge (b := k) (by omega) (by omega))) (fun c4 => ?_)
          refine lv_aload_n hx hb dX0_clearWaiting_20 rfl (lv_at hl 2 rfl) ?_
          refine c_get (u := cs_wa u (fo (fun p wa => up2 wa i p NN) (j) (fo (fun v wa => fo (fun p wa => up2 wa v p NN) k wa) (i) (c_wa u)))) hx hb hts hin hown hK hP 8 (by decide) rfl hf_39 (.ref (g 6)) rfl dX0_clearWaiting_21 ?_
          refine lv_iload_n hx hb dX0_clearWaiting_24 rfl (lv_at hl 1 rfl) ?_
          refine c_row (u := cs_wa u (fo (fun p wa => up2 wa i p NN) (j) (fo (fun v wa => fo (fun p wa => up2 wa v p NN) k wa) (i) (c_wa u)))) hx hb hK hP (v := i) (by omega) dX0_clearWaiting_25 ?_
          refine lv_iload_n hx hb dX0_clearWaiting_26 rfl (lv_at hl 0 rfl) ?_
          refine lv_ldc2d hx hb hown hk_88 dX0_clearWaiting_27 ?_
          refine c_rowst (u := cs_wa u (fo (fun p wa => up2 wa i p NN) (j) (fo (fun v wa => fo (fun p wa => up2 wa v p NN) k wa) (i) (c_wa u)))) hx hb hK hP hD hS (v := i) (q := j) (by omega) (by omega) dX0_clearWaiting_30 (fun H locs hP hD hS => ?_)
          have hP : va_P D vwCl (cw ki g (cs_wa u (up2 (fo (fun p wa => up2 wa i p NN) (j) (fo (fun v wa => fo (fun p wa => up2 wa v p NN) k wa) (i) (c_wa u))) i j NN))) H := hP
          have hD : va_D A (cw ki g (cs_wa u (up2 (fo (fun p wa => up2 wa i p NN) (j) (fo (fun v wa => fo (fun p wa => up2 wa v p NN) k wa) (i) (c_wa u))) i j NN))) := hD
          refine lv_iinc (v := nI (j + 1)) (lv' := [(2, .int (nI (j + 1))), (1, .int (nI i)), (0, .ref (g 0))]) hx hb dX0_clearWaiting_31 hl (k := 0) rfl (nI_1 j) (by decide) rfl (fun ls hl => ?_)
          refine lv_goto (tgt := 12) hx hb dX0_clearWaiting_34 (by decide) ?_
          exact ih (j + 1) (by omega) _ _ _ hP hD hS (lv_sub hl [0, 1, 2] rfl) 
      exact loop2 (k) 0 (by omega) H locs ls hP hD hS (lv_sub hl [0, 1, 2] rfl) 
  exact loop (n) 0 (by omega) H locs ls hP hD hS (lv_sub hl [0, 1] rfl) 

set_option maxHeartbeats 4000000 in
set_option maxRecDepth 100000 in
/-- sendAlong -/
theorem t_X0_sendAlong (l : Launch) (D : va_G) (ki : Nat → ClassId) (g : Nat → Nat) (u : CS) (sz : Nat) (fr to : Nat) (w : UInt64) (k : Nat) (hk : c_k u = nI k) (hk1 : 0 < k) (hk4 : k ≤ 4) (hfr : fr < 12) (hto : to < 12) (hm0 : ¬ c_sn u fr = 0 → vf_n64 (FP.dadd (c_va u fr) w) ∧ vf_n64 (FP.dadd (c_va u fr) D1)) : gMv l yX0_sendAlong wsX0_sendAlong ({ frames := 2, cells := 0, slots := 0, locals := 43 }) D (cw ki g) (cty ki) u sz [.ref (g 0), .int (nI fr), .int (nI to), .double w] (fun u' => u' = cs_q u (C_send (c_pr u) k (c_sn u) (c_va u) fr to w (c_q u))) := by
  refine g_ofv (cc := cX0_sendAlong) (maxL := 8) (ret := none) (own := RX0) (by decide) rfl rfl ?_
  intro p e s m below meth c A hx hb hr hlocks hml hts hown hK hD hA H locs hP hS
  have hl := lv_entry ([.ref (g 0), .int (nI fr), .int (nI to), .double w]) (n := 8) (Nat.le_of_ble_eq_true rfl)
  rw [lg_entry_eq]
  generalize (lg_sl ([.ref (g 0), .int (nI fr), .int (nI to), .double w]) ++ List.replicate (8 - (lg_sl ([.ref (g 0), .int (nI fr), .int (nI to), .double w])).length) Slot.unset).toArray = ls at hl ⊢
  have hl : lv_has ls 8 [(0, .ref (g 0)), (1, .int (nI fr)), (2, .int (nI to)), (3, .double w)] := hl
  have hf_30 := hts (.fieldLink RX0 30 "StepGraph" "values" "[D") (by decide +kernel)
  have hf_33 := hts (.fieldLink RX0 33 "StepGraph" "sends" "[Z") (by decide +kernel)
  have hf_39 := hts (.fieldLink RX0 39 "StepGraph" "waiting" "[[D") (by decide +kernel)
  have hf_55 := hts (.fieldLink RX0 55 "StepGraph" "sentCount" "I") (by decide +kernel)
  have hk_88 := hts (.constantDouble RX0 88 (13830554455654793216)) (by decide +kernel)
  have hin : ∀ w ∈ wsX00, w ∈ wsX0_sendAlong := by decide +kernel
  have hm : fr % k < k := Nat.mod_lt _ hk1
  refine lv_aload_n hx hb dX0_sendAlong_0 rfl (lv_at hl 0 rfl) ?_
  refine c_get (u := u) hx hb hts hin hown hK hP 7 (by decide) rfl hf_33 (.ref (g 5)) rfl dX0_sendAlong_1 ?_
  refine lv_iload_n hx hb dX0_sendAlong_4 rfl (lv_at hl 1 rfl) ?_
  refine k_zald hx hb hK hP 5 2 (f := c_sn u) (n := 12) rfl rfl (j := fr) (by omega) (by decide) dX0_sendAlong_5 ?_
  refine lv_if_ne (tgt := 10) hx hb dX0_sendAlong_6 (by decide) (fun c1 => ?_) (fun c1 => ?_)
  · refine lv_aload_n hx hb dX0_sendAlong_10 rfl (lv_at hl 0 rfl) ?_
    refine lv_dup hx hb dX0_sendAlong_11 rfl ?_
    refine c_get (u := u) hx hb hts hin hown hK hP 13 (by decide) rfl hf_55 (.int (c_se u)) rfl dX0_sendAlong_12 ?_
    refine lv_iconst (v := 1) hx hb dX0_sendAlong_15 (by decide) ?_
    refine lv_iadd hx hb dX0_sendAlong_16 ?_
    refine c_put (u := u) hx hb hts hin hown hK hP hD hS 13 (by decide) rfl rfl hf_55 .int (by decide +kernel) rfl rfl (cs_se u ((c_se u) + 1)) rfl dX0_sendAlong_17 (fun H locs hP hD hS => ?_)
    refine lv_aload_n hx hb dX0_sendAlong_20 rfl (lv_at hl 0 rfl) ?_
    refine lv_iload_n hx hb dX0_sendAlong_21 rfl (lv_at hl 1 rfl) ?_
    refine g_calli (w := cw ki g) (u := cs_se u ((c_se u) + 1)) (As := [.int (nI fr)]) (rest := []) ⟨hx, hb, hml, hown, hts⟩ (t_X0_partOf l D ki g (cs_se u ((c_se u) + 1)) H.size fr k hk hk1 hk4 hfr) (cwV 1 hts gX0_sendAlong_X0_partOf rfl rfl rfl (by decide +kernel) ⟨Nat.le_of_ble_eq_true rfl, Nat.le_of_ble_eq_true rfl⟩) hK hP hD hS hA rfl rfl (cw_0 ki g (cs_se u ((c_se u) + 1))) rfl hl.1 rfl (Nat.le_of_ble_eq_true rfl) dX0_sendAlong_22 ⟨Nat.zero_le _, Nat.zero_le _⟩ (fun r2 u' H locs hw hP hD hS => ?_)
    obtain ⟨rfl, rfl⟩ := hw
    refine lv_istore (lv' := [(5, .int (nI (fr % k))), (0, .ref (g 0)), (1, .int (nI fr)), (2, .int (nI to)), (3, .double w)]) hx hb dX0_sendAlong_25 hl (by decide) rfl (fun ls hl => ?_)
    refine lv_aload_n hx hb dX0_sendAlong_27 rfl (lv_at hl 1 rfl) ?_
    refine c_get (u := cs_se u ((c_se u) + 1)) hx hb hts hin hown hK hP 8 (by decide) rfl hf_39 (.ref (g 6)) rfl dX0_sendAlong_28 ?_
    refine lv_iload_n hx hb dX0_sendAlong_31 rfl (lv_at hl 3 rfl) ?_
    refine c_row (u := cs_se u ((c_se u) + 1)) hx hb hK hP (v := to) (by omega) dX0_sendAlong_32 ?_
    refine lv_iload hx hb dX0_sendAlong_33 (lv_at hl 0 rfl) ?_
    refine c_rowld (u := cs_se u ((c_se u) + 1)) hx hb hK hP (v := to) (q := fr % k) (by omega) (by omega) dX0_sendAlong_35 ?_
    refine lv_ldc2d hx hb hown hk_88 dX0_sendAlong_36 ?_
    refine k_dcmpl hx hb dX0_sendAlong_39 ?_
    refine lv_if_ne (tgt := 50) hx hb dX0_sendAlong_40 (by decide) (fun c3 => ?_) (fun c3 => ?_)
    · refine lv_aload_n hx hb dX0_sendAlong_50 rfl (lv_at hl 1 rfl) ?_
      refine lv_aload_n hx hb dX0_sendAlong_51 rfl (lv_at hl 1 rfl) ?_
      refine c_get (u := cs_se u ((c_se u) + 1)) hx hb hts hin hown hK hP 6 (by decide) rfl hf_30 (.ref (g 4)) rfl dX0_sendAlong_52 ?_
      refine lv_iload_n hx hb dX0_sendAlong_55 rfl (lv_at hl 2 rfl) ?_
      refine k_dald hx hb hK hP 4 1 (f := c_va u) (n := 12) rfl rfl (j := fr) (by omega) (by decide) dX0_sendAlong_56 ?_
      refine lv_dload_n hx hb dX0_sendAlong_57 rfl (lv_at hl 4 rfl) ?_
      refine g_calld (w := cw ki g) (u := cs_se u ((c_se u) + 1)) (As := [.double ((c_va u) fr), .double w]) (rest := []) ⟨hx, hb, hml, hown, hts⟩ (t_X0_messageOf l D ki g (cs_se u ((c_se u) + 1)) H.size ((c_va u) fr) w (hm0 c1).1 (hm0 c1).2) (cwV 2 hts gX0_sendAlong_X0_messageOf rfl rfl rfl (by decide +kernel) ⟨Nat.le_of_ble_eq_true rfl, Nat.le_of_ble_eq_true rfl⟩) hK hP hD hS hA rfl rfl (cw_0 ki g (cs_se u ((c_se u) + 1))) rfl hl.1 rfl (Nat.le_of_ble_eq_true rfl) dX0_sendAlong_58 ⟨Nat.zero_le _, Nat.zero_le _⟩ (fun r4 u' H locs hw hP hD hS => ?_)
      obtain ⟨rfl, rfl⟩ := hw
      have hP : va_P D vwCl (cw ki g (cs_se u ((c_se u) + 1))) H := hP
      have hD : va_D A (cw ki g (cs_se u ((c_se u) + 1))) := hD
      refine W.eq (g2 := F0 m 61 ls [.double (C_msg (c_pr u) ((c_va u) fr) w)]) rfl ?_
      refine lv_dstore (lv' := [(6, .double (C_msg (c_pr u) ((c_va u) fr) w)), (5, .int (nI (fr % k))), (0, .ref (g 0)), (1, .int (nI fr)), (2, .int (nI to)), (3, .double w)]) hx hb dX0_sendAlong_61 hl (by decide) rfl (fun ls hl => ?_)
      refine lv_aload_n hx hb dX0_sendAlong_63 rfl (lv_at hl 2 rfl) ?_
      refine lv_dload hx hb dX0_sendAlong_64 (lv_at hl 0 rfl) ?_
      refine lv_aload_n hx hb dX0_sendAlong_66 rfl (lv_at hl 2 rfl) ?_
      refine c_get (u := cs_se u ((c_se u) + 1)) hx hb hts hin hown hK hP 8 (by decide) rfl hf_39 (.ref (g 6)) rfl dX0_sendAlong_67 ?_
      refine lv_iload_n hx hb dX0_sendAlong_70 rfl (lv_at hl 4 rfl) ?_
      refine c_row (u := cs_se u ((c_se u) + 1)) hx hb hK hP (v := to) (by omega) dX0_sendAlong_71 ?_
      refine lv_iload hx hb dX0_sendAlong_72 (lv_at hl 1 rfl) ?_
      refine c_rowld (u := cs_se u ((c_se u) + 1)) hx hb hK hP (v := to) (q := fr % k) (by omega) (by omega) dX0_sendAlong_74 ?_
      refine g_calli (w := cw ki g) (u := cs_se u ((c_se u) + 1)) (As := [.double (C_msg (c_pr u) ((c_va u) fr) w), .double ((c_wa u) to (fr % k))]) (rest := []) ⟨hx, hb, hml, hown, hts⟩ (t_X0_isBetter l D ki g (cs_se u ((c_se u) + 1)) H.size (C_msg (c_pr u) ((c_va u) fr) w) ((c_wa u) to (fr % k)) ) (cwV 2 hts gX0_sendAlong_X0_isBetter rfl rfl rfl (by decide +kernel) ⟨Nat.le_of_ble_eq_true rfl, Nat.le_of_ble_eq_true rfl⟩) hK hP hD hS hA rfl rfl (cw_0 ki g (cs_se u ((c_se u) + 1))) rfl hl.1 rfl (Nat.le_of_ble_eq_true rfl) dX0_sendAlong_75 ⟨Nat.zero_le _, Nat.zero_le _⟩ (fun r5 u' H locs hw hP hD hS => ?_)
      obtain ⟨rfl, rfl⟩ := hw
      have hP : va_P D vwCl (cw ki g (cs_se u ((c_se u) + 1))) H := hP
      have hD : va_D A (cw ki g (cs_se u ((c_se u) + 1))) := hD
      refine W.eq (g2 := F0 m 78 ls [.int (b2 (C_bet (c_pr u) (C_msg (c_pr u) ((c_va u) fr) w) ((c_wa u) to (fr % k))))]) rfl ?_
      refine lv_if_eq (tgt := 92) hx hb dX0_sendAlong_78 (by decide) (fun c6 => ?_) (fun c6 => ?_)
      · have c6 := b2_0 c6
        exact W.vret hx hb hr (fun t ht hW => ⟨⟨(cs_se u ((c_se u) + 1)), rfl, (by simp only [C_send, C_put, C_one, C_cnt, cs_q, c_q, if_neg c1, if_neg c3, if_neg c6] <;> rfl), by rw [ht]; exact hP, va_K.moved hW.alike hK, hD⟩, hS.F ht⟩) hS.2.2 dX0_sendAlong_92
      · have c6 := b2_1 c6
        refine lv_aload_n hx hb dX0_sendAlong_81 rfl (lv_at hl 2 rfl) ?_
        refine c_get (u := cs_se u ((c_se u) + 1)) hx hb hts hin hown hK hP 8 (by decide) rfl hf_39 (.ref (g 6)) rfl dX0_sendAlong_82 ?_
        refine lv_iload_n hx hb dX0_sendAlong_85 rfl (lv_at hl 4 rfl) ?_
        refine c_row (u := cs_se u ((c_se u) + 1)) hx hb hK hP (v := to) (by omega) dX0_sendAlong_86 ?_
        refine lv_iload hx hb dX0_sendAlong_87 (lv_at hl 1 rfl) ?_
        refine lv_dload hx hb dX0_sendAlong_89 (lv_at hl 0 rfl) ?_
        refine c_rowst (u := cs_se u ((c_se u) + 1)) hx hb hK hP hD hS (v := to) (q := fr % k) (by omega) (by omega) dX0_sendAlong_91 (fun H locs hP hD hS => ?_)
        have hP : va_P D vwCl (cw ki g (cs_wa (cs_se u ((c_se u) + 1)) (up2 (c_wa u) to (fr % k) (C_msg (c_pr u) ((c_va u) fr) w)))) H := hP
        have hD : va_D A (cw ki g (cs_wa (cs_se u ((c_se u) + 1)) (up2 (c_wa u) to (fr % k) (C_msg (c_pr u) ((c_va u) fr) w)))) := hD
        exact W.vret hx hb hr (fun t ht hW => ⟨⟨(cs_wa (cs_se u ((c_se u) + 1)) (up2 (c_wa u) to (fr % k) (C_msg (c_pr u) ((c_va u) fr) w))), rfl, (by simp only [C_send, C_put, C_one, C_cnt, cs_q, c_q, if_neg c1, if_neg c3, if_pos c6] <;> rfl), by rw [ht]; exact hP, va_K.moved hW.alike hK, hD⟩, hS.F ht⟩) hS.2.2 dX0_sendAlong_92
    · refine lv_aload_n hx hb dX0_sendAlong_43 rfl (lv_at hl 1 rfl) ?_
      refine lv_iload hx hb dX0_sendAlong_44 (lv_at hl 0 rfl) ?_
      refine lv_iload_n hx hb dX0_sendAlong_46 rfl (lv_at hl 3 rfl) ?_
      refine g_callv (w := cw ki g) (u := cs_se u ((c_se u) + 1)) (As := [.int (nI (fr % k)), .int (nI to)]) (rest := []) ⟨hx, hb, hml, hown, hts⟩ (t_X0_countDelivery l D ki g (cs_se u ((c_se u) + 1)) H.size (fr % k) to k hk hk1 hk4 (by omega) hto) (cwV 2 hts gX0_sendAlong_X0_countDelivery rfl rfl rfl (by decide +kernel) ⟨Nat.le_of_ble_eq_true rfl, Nat.le_of_ble_eq_true rfl⟩) hK hP hD hS hA rfl rfl (cw_0 ki g (cs_se u ((c_se u) + 1))) rfl hl.1 rfl (Nat.le_of_ble_eq_true rfl) dX0_sendAlong_47 ⟨Nat.zero_le _, Nat.zero_le _⟩ (fun u' H locs hw hP hD hS => ?_)
      subst hw
      have hP : va_P D vwCl (cw ki g (cs_cr (cs_de (cs_se (cs_wc u (c_wc u + 1)) ((c_se u) + 1)) (c_de u + 1)) (if to % k = (fr % k) then c_cr u else c_cr u + 1))) H := hP
      have hD : va_D A (cw ki g (cs_cr (cs_de (cs_se (cs_wc u (c_wc u + 1)) ((c_se u) + 1)) (c_de u + 1)) (if to % k = (fr % k) then c_cr u else c_cr u + 1))) := hD
      refine lv_aload_n hx hb dX0_sendAlong_50 rfl (lv_at hl 1 rfl) ?_
      refine lv_aload_n hx hb dX0_sendAlong_51 rfl (lv_at hl 1 rfl) ?_
      refine c_get (u := cs_cr (cs_de (cs_se (cs_wc u (c_wc u + 1)) ((c_se u) + 1)) (c_de u + 1)) (if to % k = (fr % k) then c_cr u else c_cr u + 1)) hx hb hts hin hown hK hP 6 (by decide) rfl hf_30 (.ref (g 4)) rfl dX0_sendAlong_52 ?_
      refine lv_iload_n hx hb dX0_sendAlong_55 rfl (lv_at hl 2 rfl) ?_
      refine k_dald hx hb hK hP 4 1 (f := c_va u) (n := 12) rfl rfl (j := fr) (by omega) (by decide) dX0_sendAlong_56 ?_
      refine lv_dload_n hx hb dX0_sendAlong_57 rfl (lv_at hl 4 rfl) ?_
      refine g_calld (w := cw ki g) (u := cs_cr (cs_de (cs_se (cs_wc u (c_wc u + 1)) ((c_se u) + 1)) (c_de u + 1)) (if to % k = (fr % k) then c_cr u else c_cr u + 1)) (As := [.double ((c_va u) fr), .double w]) (rest := []) ⟨hx, hb, hml, hown, hts⟩ (t_X0_messageOf l D ki g (cs_cr (cs_de (cs_se (cs_wc u (c_wc u + 1)) ((c_se u) + 1)) (c_de u + 1)) (if to % k = (fr % k) then c_cr u else c_cr u + 1)) H.size ((c_va u) fr) w (hm0 c1).1 (hm0 c1).2) (cwV 2 hts gX0_sendAlong_X0_messageOf rfl rfl rfl (by decide +kernel) ⟨Nat.le_of_ble_eq_true rfl, Nat.le_of_ble_eq_true rfl⟩) hK hP hD hS hA rfl rfl (cw_0 ki g (cs_cr (cs_de (cs_se (cs_wc u (c_wc u + 1)) ((c_se u) + 1)) (c_de u + 1)) (if to % k = (fr % k) then c_cr u else c_cr u + 1))) rfl hl.1 rfl (Nat.le_of_ble_eq_true rfl) dX0_sendAlong_58 ⟨Nat.zero_le _, Nat.zero_le _⟩ (fun r8 u' H locs hw hP hD hS => ?_)
      obtain ⟨rfl, rfl⟩ := hw
      have hP : va_P D vwCl (cw ki g (cs_cr (cs_de (cs_se (cs_wc u (c_wc u + 1)) ((c_se u) + 1)) (c_de u + 1)) (if to % k = (fr % k) then c_cr u else c_cr u + 1))) H := hP
      have hD : va_D A (cw ki g (cs_cr (cs_de (cs_se (cs_wc u (c_wc u + 1)) ((c_se u) + 1)) (c_de u + 1)) (if to % k = (fr % k) then c_cr u else c_cr u + 1))) := hD
      refine W.eq (g2 := F0 m 61 ls [.double (C_msg (c_pr u) ((c_va u) fr) w)]) rfl ?_
      refine lv_dstore (lv' := [(6, .double (C_msg (c_pr u) ((c_va u) fr) w)), (5, .int (nI (fr % k))), (0, .ref (g 0)), (1, .int (nI fr)), (2, .int (nI to)), (3, .double w)]) hx hb dX0_sendAlong_61 hl (by decide) rfl (fun ls hl => ?_)
      refine lv_aload_n hx hb dX0_sendAlong_63 rfl (lv_at hl 2 rfl) ?_
      refine lv_dload hx hb dX0_sendAlong_64 (lv_at hl 0 rfl) ?_
      refine lv_aload_n hx hb dX0_sendAlong_66 rfl (lv_at hl 2 rfl) ?_
      refine c_get (u := cs_cr (cs_de (cs_se (cs_wc u (c_wc u + 1)) ((c_se u) + 1)) (c_de u + 1)) (if to % k = (fr % k) then c_cr u else c_cr u + 1)) hx hb hts hin hown hK hP 8 (by decide) rfl hf_39 (.ref (g 6)) rfl dX0_sendAlong_67 ?_
      refine lv_iload_n hx hb dX0_sendAlong_70 rfl (lv_at hl 4 rfl) ?_
      refine c_row (u := cs_cr (cs_de (cs_se (cs_wc u (c_wc u + 1)) ((c_se u) + 1)) (c_de u + 1)) (if to % k = (fr % k) then c_cr u else c_cr u + 1)) hx hb hK hP (v := to) (by omega) dX0_sendAlong_71 ?_
      refine lv_iload hx hb dX0_sendAlong_72 (lv_at hl 1 rfl) ?_
      refine c_rowld (u := cs_cr (cs_de (cs_se (cs_wc u (c_wc u + 1)) ((c_se u) + 1)) (c_de u + 1)) (if to % k = (fr % k) then c_cr u else c_cr u + 1)) hx hb hK hP (v := to) (q := fr % k) (by omega) (by omega) dX0_sendAlong_74 ?_
      refine g_calli (w := cw ki g) (u := cs_cr (cs_de (cs_se (cs_wc u (c_wc u + 1)) ((c_se u) + 1)) (c_de u + 1)) (if to % k = (fr % k) then c_cr u else c_cr u + 1)) (As := [.double (C_msg (c_pr u) ((c_va u) fr) w), .double ((c_wa u) to (fr % k))]) (rest := []) ⟨hx, hb, hml, hown, hts⟩ (t_X0_isBetter l D ki g (cs_cr (cs_de (cs_se (cs_wc u (c_wc u + 1)) ((c_se u) + 1)) (c_de u + 1)) (if to % k = (fr % k) then c_cr u else c_cr u + 1)) H.size (C_msg (c_pr u) ((c_va u) fr) w) ((c_wa u) to (fr % k)) ) (cwV 2 hts gX0_sendAlong_X0_isBetter rfl rfl rfl (by decide +kernel) ⟨Nat.le_of_ble_eq_true rfl, Nat.le_of_ble_eq_true rfl⟩) hK hP hD hS hA rfl rfl (cw_0 ki g (cs_cr (cs_de (cs_se (cs_wc u (c_wc u + 1)) ((c_se u) + 1)) (c_de u + 1)) (if to % k = (fr % k) then c_cr u else c_cr u + 1))) rfl hl.1 rfl (Nat.le_of_ble_eq_true rfl) dX0_sendAlong_75 ⟨Nat.zero_le _, Nat.zero_le _⟩ (fun r9 u' H locs hw hP hD hS => ?_)
      obtain ⟨rfl, rfl⟩ := hw
      have hP : va_P D vwCl (cw ki g (cs_cr (cs_de (cs_se (cs_wc u (c_wc u + 1)) ((c_se u) + 1)) (c_de u + 1)) (if to % k = (fr % k) then c_cr u else c_cr u + 1))) H := hP
      have hD : va_D A (cw ki g (cs_cr (cs_de (cs_se (cs_wc u (c_wc u + 1)) ((c_se u) + 1)) (c_de u + 1)) (if to % k = (fr % k) then c_cr u else c_cr u + 1))) := hD
      refine W.eq (g2 := F0 m 78 ls [.int (b2 (C_bet (c_pr u) (C_msg (c_pr u) ((c_va u) fr) w) ((c_wa u) to (fr % k))))]) rfl ?_
      refine lv_if_eq (tgt := 92) hx hb dX0_sendAlong_78 (by decide) (fun c10 => ?_) (fun c10 => ?_)
      · have c10 := b2_0 c10
        exact W.vret hx hb hr (fun t ht hW => ⟨⟨(cs_cr (cs_de (cs_se (cs_wc u (c_wc u + 1)) ((c_se u) + 1)) (c_de u + 1)) (if to % k = (fr % k) then c_cr u else c_cr u + 1)), rfl, (by simp only [C_send, C_put, C_one, C_cnt, cs_q, c_q, if_neg c1, if_pos c3, if_neg c10] <;> rfl), by rw [ht]; exact hP, va_K.moved hW.alike hK, hD⟩, hS.F ht⟩) hS.2.2 dX0_sendAlong_92
      · have c10 := b2_1 c10
        refine lv_aload_n hx hb dX0_sendAlong_81 rfl (lv_at hl 2 rfl) ?_
        refine c_get (u := cs_cr (cs_de (cs_se (cs_wc u (c_wc u + 1)) ((c_se u) + 1)) (c_de u + 1)) (if to % k = (fr % k) then c_cr u else c_cr u + 1)) hx hb hts hin hown hK hP 8 (by decide) rfl hf_39 (.ref (g 6)) rfl dX0_sendAlong_82 ?_
        refine lv_iload_n hx hb dX0_sendAlong_85 rfl (lv_at hl 4 rfl) ?_
        refine c_row (u := cs_cr (cs_de (cs_se (cs_wc u (c_wc u + 1)) ((c_se u) + 1)) (c_de u + 1)) (if to % k = (fr % k) then c_cr u else c_cr u + 1)) hx hb hK hP (v := to) (by omega) dX0_sendAlong_86 ?_
        refine lv_iload hx hb dX0_sendAlong_87 (lv_at hl 1 rfl) ?_
        refine lv_dload hx hb dX0_sendAlong_89 (lv_at hl 0 rfl) ?_
        refine c_rowst (u := cs_cr (cs_de (cs_se (cs_wc u (c_wc u + 1)) ((c_se u) + 1)) (c_de u + 1)) (if to % k = (fr % k) then c_cr u else c_cr u + 1)) hx hb hK hP hD hS (v := to) (q := fr % k) (by omega) (by omega) dX0_sendAlong_91 (fun H locs hP hD hS => ?_)
        have hP : va_P D vwCl (cw ki g (cs_wa (cs_cr (cs_de (cs_se (cs_wc u (c_wc u + 1)) ((c_se u) + 1)) (c_de u + 1)) (if to % k = (fr % k) then c_cr u else c_cr u + 1)) (up2 (c_wa u) to (fr % k) (C_msg (c_pr u) ((c_va u) fr) w)))) H := hP
        have hD : va_D A (cw ki g (cs_wa (cs_cr (cs_de (cs_se (cs_wc u (c_wc u + 1)) ((c_se u) + 1)) (c_de u + 1)) (if to % k = (fr % k) then c_cr u else c_cr u + 1)) (up2 (c_wa u) to (fr % k) (C_msg (c_pr u) ((c_va u) fr) w)))) := hD
        exact W.vret hx hb hr (fun t ht hW => ⟨⟨(cs_wa (cs_cr (cs_de (cs_se (cs_wc u (c_wc u + 1)) ((c_se u) + 1)) (c_de u + 1)) (if to % k = (fr % k) then c_cr u else c_cr u + 1)) (up2 (c_wa u) to (fr % k) (C_msg (c_pr u) ((c_va u) fr) w))), rfl, (by simp only [C_send, C_put, C_one, C_cnt, cs_q, c_q, if_neg c1, if_pos c3, if_pos c10] <;> rfl), by rw [ht]; exact hP, va_K.moved hW.alike hK, hD⟩, hS.F ht⟩) hS.2.2 dX0_sendAlong_92
  · exact W.vret hx hb hr (fun t ht hW => ⟨⟨u, rfl, (by simp only [C_send, C_put, C_one, C_cnt, cs_q, c_q, if_pos c1] <;> rfl), by rw [ht]; exact hP, va_K.moved hW.alike hK, hD⟩, hS.F ht⟩) hS.2.2 dX0_sendAlong_9
