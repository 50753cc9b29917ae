set_option maxHeartbeats 4000000 in
set_option maxRecDepth 100000 in
/-- endStep -/
theorem t_X0_endStep (l : Launch) (D : va_G) (ki : Nat → ClassId) (g : Nat → Nat) (u : CS) (sz : Nat) (n k ec : Nat) (hn : c_n u = nI n) (hn12 : n ≤ 12) (hk : c_k u = nI k) (hk1 : 0 < k) (hk4 : k ≤ 4) (he : c_e u = nI ec) (he30 : ec ≤ 30) (hE : okE (c_sn u) (c_va u) (c_fe u) (c_sd u) (c_wt u) ec) : gMv l yX0_endStep wsX0_endStep ({ frames := 3, cells := 0, slots := 0, locals := 70 }) D (cw ki g) (cty ki) u sz [.ref (g 0)] (fun u' => u' = C_es n k ec u) := by
  refine g_ofv (cc := cX0_endStep) (maxL := 2) (ret := none) (own := RX0) (by decide) rfl rfl ?_
  intro p e s m below meth c A hx hb hr hlocks hml hts hown hK hD hA H locs hP hS
  have hl := lv_entry ([.ref (g 0)]) (n := 2) (Nat.le_of_ble_eq_true rfl)
  rw [lg_entry_eq]
  generalize (lg_sl ([.ref (g 0)]) ++ List.replicate (2 - (lg_sl ([.ref (g 0)])).length) Slot.unset).toArray = ls at hl ⊢
  have hl : lv_has ls 2 [(0, .ref (g 0))] := hl
  have hf_9 := hts (.fieldLink RX0 9 "StepGraph" "firstEnds" "[I") (by decide +kernel)
  have hf_13 := hts (.fieldLink RX0 13 "StepGraph" "secondEnds" "[I") (by decide +kernel)
  have hf_16 := hts (.fieldLink RX0 16 "StepGraph" "weights" "[D") (by decide +kernel)
  have hf_24 := hts (.fieldLink RX0 24 "StepGraph" "edgeCount" "I") (by decide +kernel)
  have hf_52 := hts (.fieldLink RX0 52 "StepGraph" "stepCount" "I") (by decide +kernel)
  have hin : ∀ w ∈ wsX00, w ∈ wsX0_endStep := by decide +kernel
  refine lv_aload_n hx hb dX0_endStep_0 rfl (lv_at hl 0 rfl) ?_
  refine g_callv (w := cw ki g) (u := u) (As := []) (rest := []) ⟨hx, hb, hml, hown, hts⟩ (t_X0_clearWaiting l D ki g (u) H.size n k hn hn12 hk hk1 hk4) (cwV 0 hts gX0_endStep_X0_clearWaiting rfl rfl rfl (by decide +kernel) ⟨Nat.le_of_ble_eq_true rfl, Nat.le_of_ble_eq_true rfl⟩) hK hP hD hS hA rfl rfl (cw_0 ki g (u)) rfl hl.1 rfl (Nat.le_of_ble_eq_true rfl) dX0_endStep_1 ⟨Nat.zero_le _, Nat.zero_le _⟩ (fun u' H locs hw hP hD hS => ?_)
  subst hw
  have hP : va_P D vwCl (cw ki g (cs_wa (cs_wc u 0) (C_clr n k (c_wa u)))) H := hP
  have hD : va_D A (cw ki g (cs_wa (cs_wc u 0) (C_clr n k (c_wa u)))) := hD
  refine lv_iconst (v := 0) hx hb dX0_endStep_4 (by decide) ?_
  refine lv_istore_n (lv' := [(1, .int 0), (0, .ref (g 0))]) hx hb dX0_endStep_5 rfl hl (by decide) rfl (fun ls hl => ?_)
  have loop : ∀ (r i : Nat), i + r = ec → ∀ (H : Heap) (locs : List Loc) (ls : Array Slot), va_P D vwCl (cw ki g (cs_q u (C_eq n k u (i)))) H → va_D A (cw ki g (cs_q u (C_eq n k u (i)))) → va_S A s.heap H locs → lv_has ls 2 [(1, .int (nI (i))), (0, .ref (g 0))] → W p l e (headSpec wsX0_endStep { frames := 3, cells := 0, slots := 0, locals := 70 }).room s m ([.ref (g 0)] : List Value).toArray below meth c H locs 0 0 (MQ below (va_Qv (fun u' => u' = C_es n k ec u) (gQ D (cw ki g) (cty ki) A) A) ([.ref (g 0)] : List Value).toArray s 0 0 A) (F0 m 6 ls []) := by
    intro r
    induction r with
    | zero =>
      intro i hii H locs ls hP hD hS hl 
      have hii : ec = i := by omega
      subst hii
      refine lv_iload_n hx hb dX0_endStep_6 rfl (lv_at hl 0 rfl) ?_
      refine lv_aload_n hx hb dX0_endStep_7 rfl (lv_at hl 1 rfl) ?_
      refine c_get (u := cs_q u (C_eq n k u (ec))) hx hb hts hin hown hK hP 4 (by decide) rfl hf_24 (.int (nI ec)) (congrArg (fun z => some (Value.int z)) he) dX0_endStep_8 ?_
      refine lv_icmp_ge (tgt := 64) hx hb dX0_endStep_11 (by decide) (fun c2 => ?_) (fun c2 => absurd (Int32.le_refl _) c2)
      refine lv_aload_n hx hb dX0_endStep_64 rfl (lv_at hl 1 rfl) ?_
      refine lv_dup hx hb dX0_endStep_65 rfl ?_
      refine c_get (u := cs_q u (C_eq n k u (ec))) hx hb hts hin hown hK hP 12 (by decide) rfl hf_52 (.int (c_sc u)) rfl dX0_endStep_66 ?_
      refine lv_iconst (v := 1) hx hb dX0_endStep_69 (by decide) ?_
      refine lv_iadd hx hb dX0_endStep_70 ?_
      refine c_put (u := cs_q u (C_eq n k u (ec))) hx hb hts hin hown hK hP hD hS 12 (by decide) rfl rfl hf_52 .int (by decide +kernel) rfl rfl (cs_sc (cs_q u (C_eq n k u (ec))) ((c_sc u) + 1)) rfl dX0_endStep_71 (fun H locs hP hD hS => ?_)
      exact W.vret hx hb hr (fun t ht hW => ⟨⟨(cs_sc (cs_q u (C_eq n k u (ec))) ((c_sc u) + 1)), rfl, rfl, by rw [ht]; exact hP, va_K.moved hW.alike hK, hD⟩, hS.F ht⟩) hS.2.2 dX0_endStep_74
    | succ r ih =>
      intro i hii H locs ls hP hD hS hl 
      obtain ⟨a, b, ha, hbb, hfe, hsd, hna, hnb⟩ := hE i (by omega)
      refine lv_iload_n hx hb dX0_endStep_6 rfl (lv_at hl 0 rfl) ?_
      refine lv_aload_n hx hb dX0_endStep_7 rfl (lv_at hl 1 rfl) ?_
      refine c_get (u := cs_q u (C_eq n k u (i))) hx hb hts hin hown hK hP 4 (by decide) rfl hf_24 (.int (nI ec)) (congrArg (fun z => some (Value.int z)) he) dX0_endStep_8 ?_
      refine lv_icmp_ge (tgt := 64) hx hb dX0_endStep_11 (by decide) (fun c3 => absurd c3 (nI_ge (b := ec) (by omega) (by omega))) (fun c3 => ?_)
      refine lv_aload_n hx hb dX0_endStep_14 rfl (lv_at hl 1 rfl) ?_
      refine lv_aload_n hx hb dX0_endStep_15 rfl (lv_at hl 1 rfl) ?_
      refine c_get (u := cs_q u (C_eq n k u (i))) hx hb hts hin hown hK hP 0 (by decide) rfl hf_9 (.ref (g 1)) rfl dX0_endStep_16 ?_
      refine lv_iload_n hx hb dX0_endStep_19 rfl (lv_at hl 0 rfl) ?_
      refine k_iald hx hb hK hP 1 0 (f := c_fe u) (n := 30) rfl rfl (j := i) (by omega) (by decide) dX0_endStep_20 ?_
      rw [hfe]
      refine lv_aload_n hx hb dX0_endStep_21 rfl (lv_at hl 1 rfl) ?_
      refine c_get (u := cs_q u (C_eq n k u (i))) hx hb hts hin hown hK hP 1 (by decide) rfl hf_13 (.ref (g 2)) rfl dX0_endStep_22 ?_
      refine lv_iload_n hx hb dX0_endStep_25 rfl (lv_at hl 0 rfl) ?_
      refine k_iald hx hb hK hP 2 0 (f := c_sd u) (n := 30) rfl rfl (j := i) (by omega) (by decide) dX0_endStep_26 ?_
      rw [hsd]
      refine lv_aload_n hx hb dX0_endStep_27 rfl (lv_at hl 1 rfl) ?_
      refine c_get (u := cs_q u (C_eq n k u (i))) hx hb hts hin hown hK hP 2 (by decide) rfl hf_16 (.ref (g 3)) rfl dX0_endStep_28 ?_
      refine lv_iload_n hx hb dX0_endStep_31 rfl (lv_at hl 0 rfl) ?_
      refine k_dald hx hb hK hP 3 1 (f := c_wt u) (n := 30) rfl rfl (j := i) (by omega) (by decide) dX0_endStep_32 ?_
      refine g_callv (w := cw ki g) (u := cs_q u (C_eq n k u (i))) (As := [.int (nI a), .int (nI b), .double ((c_wt u) i)]) (rest := []) ⟨hx, hb, hml, hown, hts⟩ (t_X0_sendAlong l D ki g (cs_q u (C_eq n k u (i))) H.size a b ((c_wt u) i) k hk hk1 hk4 ha hbb hna) (cwV 3 hts gX0_endStep_X0_sendAlong rfl rfl rfl (by decide +kernel) ⟨Nat.le_of_ble_eq_true rfl, Nat.le_of_ble_eq_true rfl⟩) hK hP hD hS hA rfl rfl (cw_0 ki g (cs_q u (C_eq n k u (i)))) rfl hl.1 rfl (Nat.le_of_ble_eq_true rfl) dX0_endStep_33 ⟨Nat.zero_le _, Nat.zero_le _⟩ (fun u' H locs hw hP hD hS => ?_)
      subst hw
      have hP : va_P D vwCl (cw ki g (cs_q u (C_send (c_pr u) k (c_sn u) (c_va u) a b ((c_wt u) i) (C_eq n k u (i))))) H := hP
      have hD : va_D A (cw ki g (cs_q u (C_send (c_pr u) k (c_sn u) (c_va u) a b ((c_wt u) i) (C_eq n k u (i))))) := hD
      refine lv_aload_n hx hb dX0_endStep_36 rfl (lv_at hl 1 rfl) ?_
      refine lv_aload_n hx hb dX0_endStep_37 rfl (lv_at hl 1 rfl) ?_
      refine c_get (u := cs_q u (C_send (c_pr u) k (c_sn u) (c_va u) a b ((c_wt u) i) (C_eq n k u (i)))) hx hb hts hin hown hK hP 1 (by decide) rfl hf_13 (.ref (g 2)) rfl dX0_endStep_38 ?_
      refine lv_iload_n hx hb dX0_endStep_41 rfl (lv_at hl 0 rfl) ?_
      refine k_iald hx hb hK hP 2 0 (f := c_sd u) (n := 30) rfl rfl (j := i) (by omega) (by decide) dX0_endStep_42 ?_
      rw [hsd]
      refine lv_aload_n hx hb dX0_endStep_43 rfl (lv_at hl 1 rfl) ?_
      refine c_get (u := cs_q u (C_send (c_pr u) k (c_sn u) (c_va u) a b ((c_wt u) i) (C_eq n k u (i)))) hx hb hts hin hown hK hP 0 (by decide) rfl hf_9 (.ref (g 1)) rfl dX0_endStep_44 ?_
      refine lv_iload_n hx hb dX0_endStep_47 rfl (lv_at hl 0 rfl) ?_
      refine k_iald hx hb hK hP 1 0 (f := c_fe u) (n := 30) rfl rfl (j := i) (by omega) (by decide) dX0_endStep_48 ?_
      rw [hfe]
      refine lv_aload_n hx hb dX0_endStep_49 rfl (lv_at hl 1 rfl) ?_
      refine c_get (u := cs_q u (C_send (c_pr u) k (c_sn u) (c_va u) a b ((c_wt u) i) (C_eq n k u (i)))) hx hb hts hin hown hK hP 2 (by decide) rfl hf_16 (.ref (g 3)) rfl dX0_endStep_50 ?_
      refine lv_iload_n hx hb dX0_endStep_53 rfl (lv_at hl 0 rfl) ?_
      refine k_dald hx hb hK hP 3 1 (f := c_wt u) (n := 30) rfl rfl (j := i) (by omega) (by decide) dX0_endStep_54 ?_
      refine g_callv (w := cw ki g) (u := cs_q u (C_send (c_pr u) k (c_sn u) (c_va u) a b ((c_wt u) i) (C_eq n k u (i)))) (As := [.int (nI b), .int (nI a), .double ((c_wt u) i)]) (rest := []) ⟨hx, hb, hml, hown, hts⟩ (t_X0_sendAlong l D ki g (cs_q u (C_send (c_pr u) k (c_sn u) (c_va u) a b ((c_wt u) i) (C_eq n k u (i)))) H.size b a ((c_wt u) i) k hk hk1 hk4 hbb ha hnb) (cwV 3 hts gX0_endStep_X0_sendAlong rfl rfl rfl (by decide +kernel) ⟨Nat.le_of_ble_eq_true rfl, Nat.le_of_ble_eq_true rfl⟩) hK hP hD hS hA rfl rfl (cw_0 ki g (cs_q u (C_send (c_pr u) k (c_sn u) (c_va u) a b ((c_wt u) i) (C_eq n k u (i))))) rfl hl.1 rfl (Nat.le_of_ble_eq_true rfl) dX0_endStep_55 ⟨Nat.zero_le _, Nat.zero_le _⟩ (fun u' H locs hw hP hD hS => ?_)
      subst hw
      have hP : va_P D vwCl (cw ki g (cs_q u (C_send (c_pr u) k (c_sn u) (c_va u) b a ((c_wt u) i) (C_send (c_pr u) k (c_sn u) (c_va u) a b ((c_wt u) i) (C_eq n k u (i)))))) H := hP
      have hD : va_D A (cw ki g (cs_q u (C_send (c_pr u) k (c_sn u) (c_va u) b a ((c_wt u) i) (C_send (c_pr u) k (c_sn u) (c_va u) a b ((c_wt u) i) (C_eq n k u (i)))))) := hD
      refine lv_iinc (v := nI (i + 1)) (lv' := [(1, .int (nI (i + 1))), (0, .ref (g 0))]) hx hb dX0_endStep_58 hl (k := 0) rfl (nI_1 i) (by decide) rfl (fun ls hl => ?_)
      refine lv_goto (tgt := 6) hx hb dX0_endStep_61 (by decide) ?_
      have hU : C_eq n k u (i + 1) = C_send (c_pr u) k (c_sn u) (c_va u) b a ((c_wt u) i) (C_send (c_pr u) k (c_sn u) (c_va u) a b ((c_wt u) i) (C_eq n k u (i))) := by show C_edge2 _ _ _ _ _ _ _ i _ = _; unfold C_edge2; rw [hfe, hsd]; unfold tn; rw [nI_clamp (show a < 2 ^ 31 by omega), nI_clamp (show b < 2 ^ 31 by omega)]; rfl
      exact ih (i + 1) (by omega) _ _ _ (by rw [hU]; exact hP) (by rw [hU]; exact hD) hS (lv_sub hl [0, 1] rfl) 
  exact loop (ec) 0 (by omega) H locs ls hP hD hS (lv_sub hl [0, 1] rfl) 

set_option maxHeartbeats 4000000 in
set_option maxRecDepth 100000 in
/-- doStep -/
theorem t_X0_doStep (l : Launch) (D : va_G) (ki : Nat → ClassId) (g : Nat → Nat) (u : CS) (sz : Nat) (n k ec : Nat) (hn : c_n u = nI n) (hn12 : n ≤ 12) (hk : c_k u = nI k) (hk1 : 0 < k) (hk4 : k ≤ 4) (he : c_e u = nI ec) (he30 : ec ≤ 30) (hE : okE (C_dv k u n).2.2 (C_dv k u n).2.1 (c_fe u) (c_sd u) (c_wt u) ec) : gMi l yX0_doStep wsX0_doStep ({ frames := 4, cells := 0, slots := 0, locals := 91 }) D (cw ki g) (cty ki) u sz [.ref (g 0)] (fun r u' => r = (C_dv k u n).1 ∧ u' = C_do n k ec u) := by
  refine g_ofi (cc := cX0_doStep) (maxL := 5) (ret := some .int) (own := RX0) (by decide) rfl rfl ?_
  intro p e s m below meth c A hx hb hr hlocks hml hts hown hK hD hA H locs hP hS
  have hl := lv_entry ([.ref (g 0)]) (n := 5) (Nat.le_of_ble_eq_true rfl)
  rw [lg_entry_eq]
  generalize (lg_sl ([.ref (g 0)]) ++ List.replicate (5 - (lg_sl ([.ref (g 0)])).length) Slot.unset).toArray = ls at hl ⊢
  have hl : lv_has ls 5 [(0, .ref (g 0))] := hl
  have hf_20 := hts (.fieldLink RX0 20 "StepGraph" "vertexCount" "I") (by decide +kernel)
  have hf_30 := hts (.fieldLink RX0 30 "StepGraph" "values" "[D") (by decide +kernel)
  have hf_33 := hts (.fieldLink RX0 33 "StepGraph" "sends" "[Z") (by decide +kernel)
  have hk_88 := hts (.constantDouble RX0 88 (13830554455654793216)) (by decide +kernel)
  have hin : ∀ w ∈ wsX00, w ∈ wsX0_doStep := by decide +kernel
  refine lv_iconst (v := 0) hx hb dX0_doStep_0 (by decide) ?_
  refine lv_istore_n (lv' := [(1, .int 0), (0, .ref (g 0))]) hx hb dX0_doStep_1 rfl hl (by decide) rfl (fun ls hl => ?_)
  refine lv_iconst (v := 0) hx hb dX0_doStep_2 (by decide) ?_
  refine lv_istore_n (lv' := [(2, .int 0), (1, .int 0), (0, .ref (g 0))]) hx hb dX0_doStep_3 rfl hl (by decide) rfl (fun ls hl => ?_)
  have loop : ∀ (r i : Nat), i + r = n → ∀ (H : Heap) (locs : List Loc) (ls : Array Slot), va_P D vwCl (cw ki g (cs_sn (cs_va u ((C_dv k u (i)).2.1)) ((C_dv k u (i)).2.2))) H → va_D A (cw ki g (cs_sn (cs_va u ((C_dv k u (i)).2.1)) ((C_dv k u (i)).2.2))) → va_S A s.heap H locs → lv_has ls 5 [(2, .int (nI (i))), (1, .int ((C_dv k u (i)).1)), (0, .ref (g 0))] → W p l e (headSpec wsX0_doStep { frames := 4, cells := 0, slots := 0, locals := 91 }).room s m ([.ref (g 0)] : List Value).toArray below meth c H locs 0 0 (MQ below (va_Qi (fun r u' => r = (C_dv k u n).1 ∧ u' = C_do n k ec u) (gQ D (cw ki g) (cty ki) A) A) ([.ref (g 0)] : List Value).toArray s 0 0 A) (F0 m 4 ls []) := by
    intro r
    induction r with
    | zero =>
      intro i hii H locs ls hP hD hS hl 
      have hii : n = i := by omega
      subst hii
      refine lv_iload_n hx hb dX0_doStep_4 rfl (lv_at hl 0 rfl) ?_
      refine lv_aload_n hx hb dX0_doStep_5 rfl (lv_at hl 2 rfl) ?_
      refine c_get (u := cs_sn (cs_va u ((C_dv k u (n)).2.1)) ((C_dv k u (n)).2.2)) hx hb hts hin hown hK hP 3 (by decide) rfl hf_20 (.int (nI n)) (congrArg (fun z => some (Value.int z)) hn) dX0_doStep_6 ?_
      refine lv_icmp_ge (tgt := 68) hx hb dX0_doStep_9 (by decide) (fun c1 => ?_) (fun c1 => absurd (Int32.le_refl _) c1)
      refine lv_aload_n hx hb dX0_doStep_68 rfl (lv_at hl 2 rfl) ?_
      refine g_callv (w := cw ki g) (u := cs_sn (cs_va u ((C_dv k u (n)).2.1)) ((C_dv k u (n)).2.2)) (As := []) (rest := []) ⟨hx, hb, hml, hown, hts⟩ (t_X0_endStep l D ki g (cs_sn (cs_va u ((C_dv k u (n)).2.1)) ((C_dv k u (n)).2.2)) H.size n k ec hn hn12 hk hk1 hk4 he he30 hE) (cwV 0 hts gX0_doStep_X0_endStep rfl rfl rfl (by decide +kernel) ⟨Nat.le_of_ble_eq_true rfl, Nat.le_of_ble_eq_true rfl⟩) hK hP hD hS hA rfl rfl (cw_0 ki g (cs_sn (cs_va u ((C_dv k u (n)).2.1)) ((C_dv k u (n)).2.2))) rfl hl.1 rfl (Nat.le_of_ble_eq_true rfl) dX0_doStep_69 ⟨Nat.zero_le _, Nat.zero_le _⟩ (fun u' H locs hw hP hD hS => ?_)
      subst hw
      refine lv_iload_n hx hb dX0_doStep_72 rfl (lv_at hl 1 rfl) ?_
      exact W.iret (v := (C_dv k u (n)).1) hx hb hr (fun t ht hW => ⟨⟨((C_dv k u (n)).1), (C_es n k ec (cs_sn (cs_va u ((C_dv k u (n)).2.1)) ((C_dv k u (n)).2.2))), rfl, ⟨rfl, rfl⟩, by rw [ht]; exact hP, va_K.moved hW.alike hK, hD⟩, hS.F ht⟩) hS.2.2 dX0_doStep_73
    | succ r ih =>
      intro i hii H locs ls hP hD hS hl 
      refine lv_iload_n hx hb dX0_doStep_4 rfl (lv_at hl 0 rfl) ?_
      refine lv_aload_n hx hb dX0_doStep_5 rfl (lv_at hl 2 rfl) ?_
      refine c_get (u := cs_sn (cs_va u ((C_dv k u (i)).2.1)) ((C_dv k u (i)).2.2)) hx hb hts hin hown hK hP 3 (by decide) rfl hf_20 (.int (nI n)) (congrArg (fun z => some (Value.int z)) hn) dX0_doStep_6 ?_
      refine lv_icmp_ge (tgt := 68) hx hb dX0_doStep_9 (by decide) (fun c3 => absurd c3 (nI_ge (b := n) (by omega) (by omega))) (fun c3 => ?_)
      refine lv_aload_n hx hb dX0_doStep_12 rfl (lv_at hl 2 rfl) ?_
      refine lv_iload_n hx hb dX0_doStep_13 rfl (lv_at hl 0 rfl) ?_
      refine g_calld (w := cw ki g) (u := cs_sn (cs_va u ((C_dv k u (i)).2.1)) ((C_dv k u (i)).2.2)) (As := [.int (nI (i))]) (rest := []) ⟨hx, hb, hml, hown, hts⟩ (t_X0_bestWaiting l D ki g (cs_sn (cs_va u ((C_dv k u (i)).2.1)) ((C_dv k u (i)).2.2)) H.size i k hk hk1 hk4 (by omega)) (cwV 1 hts gX0_doStep_X0_bestWaiting rfl rfl rfl (by decide +kernel) ⟨Nat.le_of_ble_eq_true rfl, Nat.le_of_ble_eq_true rfl⟩) hK hP hD hS hA rfl rfl (cw_0 ki g (cs_sn (cs_va u ((C_dv k u (i)).2.1)) ((C_dv k u (i)).2.2))) rfl hl.1 rfl (Nat.le_of_ble_eq_true rfl) dX0_doStep_14 ⟨Nat.zero_le _, Nat.zero_le _⟩ (fun r4 u' H locs hw hP hD hS => ?_)
      obtain ⟨rfl, rfl⟩ := hw
      have hP : va_P D vwCl (cw ki g (cs_sn (cs_va u ((C_dv k u (i)).2.1)) ((C_dv k u (i)).2.2))) H := hP
      have hD : va_D A (cw ki g (cs_sn (cs_va u ((C_dv k u (i)).2.1)) ((C_dv k u (i)).2.2))) := hD
      refine W.eq (g2 := F0 m 17 ls [.double (C_best (c_pr u) k (c_wa u i))]) rfl ?_
      refine lv_dstore_n (lv' := [(3, .double (C_best (c_pr u) k (c_wa u i))), (2, .int (nI (i))), (1, .int ((C_dv k u (i)).1)), (0, .ref (g 0))]) hx hb dX0_doStep_17 rfl hl (by decide) rfl (fun ls hl => ?_)
      refine lv_dload_n hx hb dX0_doStep_18 rfl (lv_at hl 0 rfl) ?_
      refine lv_ldc2d hx hb hown hk_88 dX0_doStep_19 ?_
      refine k_dcmpl hx hb dX0_doStep_22 ?_
      refine lv_if_eq (tgt := 29) hx hb dX0_doStep_23 (by decide) (fun c5 => ?_) (fun c5 => ?_)
      · refine lv_aload_n hx hb dX0_doStep_29 rfl (lv_at hl 3 rfl) ?_
        refine c_get (u := cs_sn (cs_va u ((C_dv k u (i)).2.1)) ((C_dv k u (i)).2.2)) hx hb hts hin hown hK hP 7 (by decide) rfl hf_33 (.ref (g 5)) rfl dX0_doStep_30 ?_
        refine lv_iload_n hx hb dX0_doStep_33 rfl (lv_at hl 1 rfl) ?_
        refine lv_aload_n hx hb dX0_doStep_34 rfl (lv_at hl 3 rfl) ?_
        refine lv_dload_n hx hb dX0_doStep_35 rfl (lv_at hl 0 rfl) ?_
        refine lv_aload_n hx hb dX0_doStep_36 rfl (lv_at hl 3 rfl) ?_
        refine c_get (u := cs_sn (cs_va u ((C_dv k u (i)).2.1)) ((C_dv k u (i)).2.2)) hx hb hts hin hown hK hP 6 (by decide) rfl hf_30 (.ref (g 4)) rfl dX0_doStep_37 ?_
        refine lv_iload_n hx hb dX0_doStep_40 rfl (lv_at hl 1 rfl) ?_
        refine k_dald hx hb hK hP 4 1 (f := (C_dv k u (i)).2.1) (n := 12) rfl rfl (j := i) (by omega) (by decide) dX0_doStep_41 ?_
        refine g_calli (w := cw ki g) (u := cs_sn (cs_va u ((C_dv k u (i)).2.1)) ((C_dv k u (i)).2.2)) (As := [.double (C_best (c_pr u) k (c_wa u i)), .double (((C_dv k u (i)).2.1) i)]) (rest := [.int (nI (i)), .ref (g 5)]) ⟨hx, hb, hml, hown, hts⟩ (t_X0_isBetter l D ki g (cs_sn (cs_va u ((C_dv k u (i)).2.1)) ((C_dv k u (i)).2.2)) H.size (C_best (c_pr u) k (c_wa u i)) (((C_dv k u (i)).2.1) i) ) (cwV 2 hts gX0_doStep_X0_isBetter rfl rfl rfl (by decide +kernel) ⟨Nat.le_of_ble_eq_true rfl, Nat.le_of_ble_eq_true rfl⟩) hK hP hD hS hA rfl rfl (cw_0 ki g (cs_sn (cs_va u ((C_dv k u (i)).2.1)) ((C_dv k u (i)).2.2))) rfl hl.1 rfl (Nat.le_of_ble_eq_true rfl) dX0_doStep_42 ⟨Nat.zero_le _, Nat.zero_le _⟩ (fun r6 u' H locs hw hP hD hS => ?_)
        obtain ⟨rfl, rfl⟩ := hw
        have hP : va_P D vwCl (cw ki g (cs_sn (cs_va u ((C_dv k u (i)).2.1)) ((C_dv k u (i)).2.2))) H := hP
        have hD : va_D A (cw ki g (cs_sn (cs_va u ((C_dv k u (i)).2.1)) ((C_dv k u (i)).2.2))) := hD
        refine W.eq (g2 := F0 m 45 ls [.int (b2 (C_bet (c_pr u) (C_best (c_pr u) k (c_wa u i)) (((C_dv k u (i)).2.1) i))), .int (nI (i)), .ref (g 5)]) rfl ?_
        refine k_zast hx hb hK hP hD hS 5 2 (f := (C_dv k u (i)).2.2) (n := 12) rfl rfl (j := i) (by omega) (by decide) (b2_nar _) dX0_doStep_45 (fun H locs hP hD hS => ?_)
        have hP : va_P D vwCl (cw ki g (cs_sn (cs_va u ((C_dv k u (i)).2.1)) (upd ((C_dv k u (i)).2.2) i (b2 (C_bet (c_pr u) (C_best (c_pr u) k (c_wa u i)) (((C_dv k u (i)).2.1) i)))))) H := hP
        have hD : va_D A (cw ki g (cs_sn (cs_va u ((C_dv k u (i)).2.1)) (upd ((C_dv k u (i)).2.2) i (b2 (C_bet (c_pr u) (C_best (c_pr u) k (c_wa u i)) (((C_dv k u (i)).2.1) i)))))) := hD
        refine lv_aload_n hx hb dX0_doStep_46 rfl (lv_at hl 3 rfl) ?_
        refine c_get (u := cs_sn (cs_va u ((C_dv k u (i)).2.1)) (upd ((C_dv k u (i)).2.2) i (b2 (C_bet (c_pr u) (C_best (c_pr u) k (c_wa u i)) (((C_dv k u (i)).2.1) i))))) hx hb hts hin hown hK hP 7 (by decide) rfl hf_33 (.ref (g 5)) rfl dX0_doStep_47 ?_
        refine lv_iload_n hx hb dX0_doStep_50 rfl (lv_at hl 1 rfl) ?_
        refine k_zald hx hb hK hP 5 2 (f := upd ((C_dv k u (i)).2.2) i (b2 (C_bet (c_pr u) (C_best (c_pr u) k (c_wa u i)) (((C_dv k u (i)).2.1) i)))) (n := 12) rfl rfl (j := i) (by omega) (by decide) dX0_doStep_51 ?_
        rw [pk_us]
        refine lv_if_eq (tgt := 62) hx hb dX0_doStep_52 (by decide) (fun c7 => ?_) (fun c7 => ?_)
        · have c7 := b2_0 c7
          refine lv_iinc (v := nI (i + 1)) (lv' := [(2, .int (nI (i + 1))), (3, .double (C_best (c_pr u) k (c_wa u i))), (1, .int ((C_dv k u (i)).1)), (0, .ref (g 0))]) hx hb dX0_doStep_62 hl (k := 1) rfl (nI_1 i) (by decide) rfl (fun ls hl => ?_)
          refine lv_goto (tgt := 4) hx hb dX0_doStep_65 (by decide) ?_
          have hU : C_dv k u (i + 1) = ((C_dv k u (i)).1, (C_dv k u (i)).2.1, upd ((C_dv k u (i)).2.2) i (b2 (C_bet (c_pr u) (C_best (c_pr u) k (c_wa u i)) (((C_dv k u (i)).2.1) i)))) := by show C_d1 _ _ _ i _ = _; simp only [C_d1, C_best, if_neg c3, if_pos c5, if_neg c7] <;> rfl
          exact ih (i + 1) (by omega) _ _ _ (by rw [hU]; exact hP) (by rw [hU]; exact hD) hS (by rw [hU]; exact lv_sub hl [0, 2, 3] rfl) 
        · have c7 := b2_1 c7
          refine lv_aload_n hx hb dX0_doStep_55 rfl (lv_at hl 3 rfl) ?_
          refine c_get (u := cs_sn (cs_va u ((C_dv k u (i)).2.1)) (upd ((C_dv k u (i)).2.2) i (b2 (C_bet (c_pr u) (C_best (c_pr u) k (c_wa u i)) (((C_dv k u (i)).2.1) i))))) hx hb hts hin hown hK hP 6 (by decide) rfl hf_30 (.ref (g 4)) rfl dX0_doStep_56 ?_
          refine lv_iload_n hx hb dX0_doStep_59 rfl (lv_at hl 1 rfl) ?_
          refine lv_dload_n hx hb dX0_doStep_60 rfl (lv_at hl 0 rfl) ?_
          refine k_dast hx hb hK hP hD hS 4 1 (f := (C_dv k u (i)).2.1) (n := 12) rfl rfl (j := i) (by omega) (by decide) dX0_doStep_61 (fun H locs hP hD hS => ?_)
          have hP : va_P D vwCl (cw ki g (cs_sn (cs_va u (vf_upd ((C_dv k u (i)).2.1) i (C_best (c_pr u) k (c_wa u i)))) (upd ((C_dv k u (i)).2.2) i (b2 (C_bet (c_pr u) (C_best (c_pr u) k (c_wa u i)) (((C_dv k u (i)).2.1) i)))))) H := hP
          have hD : va_D A (cw ki g (cs_sn (cs_va u (vf_upd ((C_dv k u (i)).2.1) i (C_best (c_pr u) k (c_wa u i)))) (upd ((C_dv k u (i)).2.2) i (b2 (C_bet (c_pr u) (C_best (c_pr u) k (c_wa u i)) (((C_dv k u (i)).2.1) i)))))) := hD
          refine lv_iinc (v := nI (i + 1)) (lv' := [(2, .int (nI (i + 1))), (3, .double (C_best (c_pr u) k (c_wa u i))), (1, .int ((C_dv k u (i)).1)), (0, .ref (g 0))]) hx hb dX0_doStep_62 hl (k := 1) rfl (nI_1 i) (by decide) rfl (fun ls hl => ?_)
          refine lv_goto (tgt := 4) hx hb dX0_doStep_65 (by decide) ?_
          have hU : C_dv k u (i + 1) = ((C_dv k u (i)).1, vf_upd ((C_dv k u (i)).2.1) i (C_best (c_pr u) k (c_wa u i)), upd ((C_dv k u (i)).2.2) i (b2 (C_bet (c_pr u) (C_best (c_pr u) k (c_wa u i)) (((C_dv k u (i)).2.1) i)))) := by show C_d1 _ _ _ i _ = _; simp only [C_d1, C_best, if_neg c3, if_pos c5, if_pos c7] <;> rfl
          exact ih (i + 1) (by omega) _ _ _ (by rw [hU]; exact hP) (by rw [hU]; exact hD) hS (by rw [hU]; exact lv_sub hl [0, 2, 3] rfl) 
      · refine lv_iinc (v := ((C_dv k u (i)).1) + 1) (lv' := [(1, .int (((C_dv k u (i)).1) + 1)), (3, .double (C_best (c_pr u) k (c_wa u i))), (2, .int (nI (i))), (0, .ref (g 0))]) hx hb dX0_doStep_26 hl (k := 2) rfl (rfl) (by decide) rfl (fun ls hl => ?_)
        refine lv_aload_n hx hb dX0_doStep_29 rfl (lv_at hl 3 rfl) ?_
        refine c_get (u := cs_sn (cs_va u ((C_dv k u (i)).2.1)) ((C_dv k u (i)).2.2)) hx hb hts hin hown hK hP 7 (by decide) rfl hf_33 (.ref (g 5)) rfl dX0_doStep_30 ?_
        refine lv_iload_n hx hb dX0_doStep_33 rfl (lv_at hl 2 rfl) ?_
        refine lv_aload_n hx hb dX0_doStep_34 rfl (lv_at hl 3 rfl) ?_
        refine lv_dload_n hx hb dX0_doStep_35 rfl (lv_at hl 1 rfl) ?_
        refine lv_aload_n hx hb dX0_doStep_36 rfl (lv_at hl 3 rfl) ?_
        refine c_get (u := cs_sn (cs_va u ((C_dv k u (i)).2.1)) ((C_dv k u (i)).2.2)) hx hb hts hin hown hK hP 6 (by decide) rfl hf_30 (.ref (g 4)) rfl dX0_doStep_37 ?_
        refine lv_iload_n hx hb dX0_doStep_40 rfl (lv_at hl 2 rfl) ?_
        refine k_dald hx hb hK hP 4 1 (f := (C_dv k u (i)).2.1) (n := 12) rfl rfl (j := i) (by omega) (by decide) dX0_doStep_41 ?_
        refine g_calli (w := cw ki g) (u := cs_sn (cs_va u ((C_dv k u (i)).2.1)) ((C_dv k u (i)).2.2)) (As := [.double (C_best (c_pr u) k (c_wa u i)), .double (((C_dv k u (i)).2.1) i)]) (rest := [.int (nI (i)), .ref (g 5)]) ⟨hx, hb, hml, hown, hts⟩ (t_X0_isBetter l D ki g (cs_sn (cs_va u ((C_dv k u (i)).2.1)) ((C_dv k u (i)).2.2)) H.size (C_best (c_pr u) k (c_wa u i)) (((C_dv k u (i)).2.1) i) ) (cwV 2 hts gX0_doStep_X0_isBetter rfl rfl rfl (by decide +kernel) ⟨Nat.le_of_ble_eq_true rfl, Nat.le_of_ble_eq_true rfl⟩) hK hP hD hS hA rfl rfl (cw_0 ki g (cs_sn (cs_va u ((C_dv k u (i)).2.1)) ((C_dv k u (i)).2.2))) rfl hl.1 rfl (Nat.le_of_ble_eq_true rfl) dX0_doStep_42 ⟨Nat.zero_le _, Nat.zero_le _⟩ (fun r8 u' H locs hw hP hD hS => ?_)
        obtain ⟨rfl, rfl⟩ := hw
        have hP : va_P D vwCl (cw ki g (cs_sn (cs_va u ((C_dv k u (i)).2.1)) ((C_dv k u (i)).2.2))) H := hP
        have hD : va_D A (cw ki g (cs_sn (cs_va u ((C_dv k u (i)).2.1)) ((C_dv k u (i)).2.2))) := hD
        refine W.eq (g2 := F0 m 45 ls [.int (b2 (C_bet (c_pr u) (C_best (c_pr u) k (c_wa u i)) (((C_dv k u (i)).2.1) i))), .int (nI (i)), .ref (g 5)]) rfl ?_
        refine k_zast hx hb hK hP hD hS 5 2 (f := (C_dv k u (i)).2.2) (n := 12) rfl rfl (j := i) (by omega) (by decide) (b2_nar _) dX0_doStep_45 (fun H locs hP hD hS => ?_)
        have hP : va_P D vwCl (cw ki g (cs_sn (cs_va u ((C_dv k u (i)).2.1)) (upd ((C_dv k u (i)).2.2) i (b2 (C_bet (c_pr u) (C_best (c_pr u) k (c_wa u i)) (((C_dv k u (i)).2.1) i)))))) H := hP
        have hD : va_D A (cw ki g (cs_sn (cs_va u ((C_dv k u (i)).2.1)) (upd ((C_dv k u (i)).2.2) i (b2 (C_bet (c_pr u) (C_best (c_pr u) k (c_wa u i)) (((C_dv k u (i)).2.1) i)))))) := hD
        refine lv_aload_n hx hb dX0_doStep_46 rfl (lv_at hl 3 rfl) ?_
        refine c_get (u := cs_sn (cs_va u ((C_dv k u (i)).2.1)) (upd ((C_dv k u (i)).2.2) i (b2 (C_bet (c_pr u) (C_best (c_pr u) k (c_wa u i)) (((C_dv k u (i)).2.1) i))))) hx hb hts hin hown hK hP 7 (by decide) rfl hf_33 (.ref (g 5)) rfl dX0_doStep_47 ?_
        refine lv_iload_n hx hb dX0_doStep_50 rfl (lv_at hl 2 rfl) ?_
        refine k_zald hx hb hK hP 5 2 (f := upd ((C_dv k u (i)).2.2) i (b2 (C_bet (c_pr u) (C_best (c_pr u) k (c_wa u i)) (((C_dv k u (i)).2.1) i)))) (n := 12) rfl rfl (j := i) (by omega) (by decide) dX0_doStep_51 ?_
        rw [pk_us]
        refine lv_if_eq (tgt := 62) hx hb dX0_doStep_52 (by decide) (fun c9 => ?_) (fun c9 => ?_)
        · have c9 := b2_0 c9
          refine lv_iinc (v := nI (i + 1)) (lv' := [(2, .int (nI (i + 1))), (1, .int (((C_dv k u (i)).1) + 1)), (3, .double (C_best (c_pr u) k (c_wa u i))), (0, .ref (g 0))]) hx hb dX0_doStep_62 hl (k := 2) rfl (nI_1 i) (by decide) rfl (fun ls hl => ?_)
          refine lv_goto (tgt := 4) hx hb dX0_doStep_65 (by decide) ?_
          have hU : C_dv k u (i + 1) = (((C_dv k u (i)).1) + 1, (C_dv k u (i)).2.1, upd ((C_dv k u (i)).2.2) i (b2 (C_bet (c_pr u) (C_best (c_pr u) k (c_wa u i)) (((C_dv k u (i)).2.1) i)))) := by show C_d1 _ _ _ i _ = _; simp only [C_d1, C_best, if_neg c3, if_neg c5, if_neg c9] <;> rfl
          exact ih (i + 1) (by omega) _ _ _ (by rw [hU]; exact hP) (by rw [hU]; exact hD) hS (by rw [hU]; exact lv_sub hl [0, 1, 3] rfl) 
        · have c9 := b2_1 c9
          refine lv_aload_n hx hb dX0_doStep_55 rfl (lv_at hl 3 rfl) ?_
          refine c_get (u := cs_sn (cs_va u ((C_dv k u (i)).2.1)) (upd ((C_dv k u (i)).2.2) i (b2 (C_bet (c_pr u) (C_best (c_pr u) k (c_wa u i)) (((C_dv k u (i)).2.1) i))))) hx hb hts hin hown hK hP 6 (by decide) rfl hf_30 (.ref (g 4)) rfl dX0_doStep_56 ?_
          refine lv_iload_n hx hb dX0_doStep_59 rfl (lv_at hl 2 rfl) ?_
          refine lv_dload_n hx hb dX0_doStep_60 rfl (lv_at hl 1 rfl) ?_
          refine k_dast hx hb hK hP hD hS 4 1 (f := (C_dv k u (i)).2.1) (n := 12) rfl rfl (j := i) (by omega) (by decide) dX0_doStep_61 (fun H locs hP hD hS => ?_)
          have hP : va_P D vwCl (cw ki g (cs_sn (cs_va u (vf_upd ((C_dv k u (i)).2.1) i (C_best (c_pr u) k (c_wa u i)))) (upd ((C_dv k u (i)).2.2) i (b2 (C_bet (c_pr u) (C_best (c_pr u) k (c_wa u i)) (((C_dv k u (i)).2.1) i)))))) H := hP
          have hD : va_D A (cw ki g (cs_sn (cs_va u (vf_upd ((C_dv k u (i)).2.1) i (C_best (c_pr u) k (c_wa u i)))) (upd ((C_dv k u (i)).2.2) i (b2 (C_bet (c_pr u) (C_best (c_pr u) k (c_wa u i)) (((C_dv k u (i)).2.1) i)))))) := hD
          refine lv_iinc (v := nI (i + 1)) (lv' := [(2, .int (nI (i + 1))), (1, .int (((C_dv k u (i)).1) + 1)), (3, .double (C_best (c_pr u) k (c_wa u i))), (0, .ref (g 0))]) hx hb dX0_doStep_62 hl (k := 2) rfl (nI_1 i) (by decide) rfl (fun ls hl => ?_)
          refine lv_goto (tgt := 4) hx hb dX0_doStep_65 (by decide) ?_
          have hU : C_dv k u (i + 1) = (((C_dv k u (i)).1) + 1, vf_upd ((C_dv k u (i)).2.1) i (C_best (c_pr u) k (c_wa u i)), upd ((C_dv k u (i)).2.2) i (b2 (C_bet (c_pr u) (C_best (c_pr u) k (c_wa u i)) (((C_dv k u (i)).2.1) i)))) := by show C_d1 _ _ _ i _ = _; simp only [C_d1, C_best, if_neg c3, if_neg c5, if_pos c9] <;> rfl
          exact ih (i + 1) (by omega) _ _ _ (by rw [hU]; exact hP) (by rw [hU]; exact hD) hS (by rw [hU]; exact lv_sub hl [0, 1, 3] rfl) 
  exact loop (n) 0 (by omega) H locs ls hP hD hS (lv_sub hl [0, 1, 2] rfl) 
