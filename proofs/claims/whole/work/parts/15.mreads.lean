def m_fitted (kd : Nat → Int32) (lo : Nat → Int64) (hi : Nat → Int64) (p0 : Int32) (p1 : Int64) : Int64 :=
  (m_greater (kd p0.toNatClampNeg) (lo p0.toNatClampNeg) (m_less (kd p0.toNatClampNeg) (hi p0.toNatClampNeg) p1))
set_option maxHeartbeats 4000000 in
set_option maxRecDepth 100000 in
theorem c_X3_fitted (l : Launch) (dC : Nat → ClassId) (dI : Nat → Nat → Nat) (cI cJ cZ : ClassId) (b : Nat → Nat) (kd : Nat → Int32) (vl : Nat → Int64) (lo : Nat → Int64) (hi : Nat → Int64) (nd : Int32) (so : Nat → Int32) (fr : Nat → Int32) (tg : Nat → Int32) (gn : Nat → Int32) (nr : Int32) (kp : Nat → Int64) (ah : Nat → Int64) (kx : Nat → Int32) (st : Int32) (mo : Int32) (ma : Int32) (fa : Int32) (op : Nat → Int32) (nx : Nat → Int32) (p0 : Int32) (p1 : Int64) (hd : vp_in p0 16) : Met l yX3_fitted wsX3_fitted ({ frames := 4, cells := 0, slots := 0, locals := 94 }) (va_Pc [.ref (b 0), .int p0, .long p1] (fun U => va_P (dC, dI) vwCl (wM cI cJ cZ b kd vl lo hi nd so fr tg gn nr kp ah kx st mo ma fa op nx) U.heap ∧ va_K (dC, dI) vwCl (tA cI cJ cZ) U)) (vp_Sl (fun r => r = m_fitted kd lo hi p0 p1)) 0 0 (fun _ => False) := by
  refine Met.ofW (cc := cX3_fitted) (maxL := 5) (ret := (some .long)) (by decide) rfl ?_
  intro p e s m args below meth c s₁ B hml hv
  obtain ⟨rfl, hP, hK⟩ := hv
  have hx := B.exec
  have hb := B.bytes
  have hr := B.returns
  have hts := atoms_spec (ws := wsX3_fitted) B.pre
  have hown : s.vm.findClass RX3 = some m.cls := findClass_of_methodNamed B.named
  have hlocks := B.notSynchronized
  have h_inX3 : ∀ w ∈ wsX30, w ∈ wsX3_fitted := fun _ h => List.mem_cons_of_mem _ (List.mem_append_right _ h)
  have k_0 := hts (.fieldLink RX3 7 "DetentCabinetModel" "kind" "[I") (by decide +kernel)
  have k_1 := hts (.fieldLink RX3 17 "DetentCabinetModel" "low" "[J") (by decide +kernel)
  have k_2 := hts (.fieldLink RX3 20 "DetentCabinetModel" "high" "[J") (by decide +kernel)
  have hl := lv_entry ([.ref (b 0), .int p0, .long p1]) (n := 5) (Nat.le_of_ble_eq_true rfl)
  rw [lg_entry_eq]
  generalize (lg_sl ([.ref (b 0), .int p0, .long p1]) ++ List.replicate (5 - (lg_sl ([.ref (b 0), .int p0, .long p1])).length) Slot.unset).toArray = ls at hl ⊢
  have hl : lv_has ls 5 [(0, .ref (b 0)), (1, .int p0), (2, .long p1)] := hl
  refine lv_aload_n hx hb dX3_fitted_0 rfl (lv_at hl 0 rfl) ?_
  refine va_get (D := (dC, dI)) (ci := 2) (v := .ref (b 1)) (C := RX3) (T := TX3) (N := 19) hx hb hts h_inX3 hown hK hP 0 rfl rfl 0 (by decide) k_0 (fun _ h9 => h9) rfl dX3_fitted_1 ?_
  refine lv_iload_n hx hb dX3_fitted_4 rfl (lv_at hl 1 rfl) ?_
  refine va_iald hx hb hK hP 1 0 rfl rfl (by assumption) dX3_fitted_5 ?_
  refine lv_istore (lv' := [(4, .int (kd p0.toNatClampNeg)), (0, .ref (b 0)), (1, .int p0), (2, .long p1)]) hx hb dX3_fitted_6 hl (by decide) rfl (fun ls hl => ?_)
  refine lv_aload_n hx hb dX3_fitted_8 rfl (lv_at hl 1 rfl) ?_
  refine lv_iload hx hb dX3_fitted_9 (lv_at hl 0 rfl) ?_
  refine lv_aload_n hx hb dX3_fitted_11 rfl (lv_at hl 1 rfl) ?_
  refine va_get (D := (dC, dI)) (ci := 2) (v := .ref (b 3)) (C := RX3) (T := TX3) (N := 19) hx hb hts h_inX3 hown hK hP 0 rfl rfl 2 (by decide) k_1 (fun _ h9 => h9) rfl dX3_fitted_12 ?_
  refine lv_iload_n hx hb dX3_fitted_15 rfl (lv_at hl 2 rfl) ?_
  refine va_lald hx hb hK hP 3 1 rfl rfl (by assumption) dX3_fitted_16 ?_
  refine lv_aload_n hx hb dX3_fitted_17 rfl (lv_at hl 1 rfl) ?_
  refine lv_iload hx hb dX3_fitted_18 (lv_at hl 0 rfl) ?_
  refine lv_aload_n hx hb dX3_fitted_20 rfl (lv_at hl 1 rfl) ?_
  refine va_get (D := (dC, dI)) (ci := 2) (v := .ref (b 4)) (C := RX3) (T := TX3) (N := 19) hx hb hts h_inX3 hown hK hP 0 rfl rfl 3 (by decide) k_2 (fun _ h9 => h9) rfl dX3_fitted_21 ?_
  refine lv_iload_n hx hb dX3_fitted_24 rfl (lv_at hl 2 rfl) ?_
  refine va_lald hx hb hK hP 4 1 rfl rfl (by assumption) dX3_fitted_25 ?_
  refine lv_lload_n hx hb dX3_fitted_26 rfl (lv_at hl 3 rfl) ?_
  refine cs_l (W.runV (As := [.int (kd p0.toNatClampNeg), .long (hi p0.toNatClampNeg), .long p1]) (rest := [.long (lo p0.toNatClampNeg), .int (kd p0.toNatClampNeg), .ref (b 0)]) ⟨hx, hb, hml, hown, hts⟩ (c_X3_less l dC dI cI cJ cZ b kd vl lo hi nd so fr tg gn nr kp ah kx st mo ma fa op nx (kd p0.toNatClampNeg) (hi p0.toNatClampNeg) p1 ) (cwV 3 hts gX3_fitted_X3_less rfl rfl rfl (by decide +kernel) ⟨Nat.le_of_ble_eq_true rfl, Nat.le_of_ble_eq_true rfl⟩) (fb_v hK hP (va_recv hK hP (ci := 2) (q0 := 0) rfl rfl)) rfl rfl hl.1 rfl (lv_room (Nat.le_of_ble_eq_true rfl)) dX3_fitted_27 ⟨Nat.zero_le _, Nat.zero_le _⟩) ?_
  refine cs_l (W.runV (As := [.int (kd p0.toNatClampNeg), .long (lo p0.toNatClampNeg), .long (m_less (kd p0.toNatClampNeg) (hi p0.toNatClampNeg) p1)]) (rest := []) ⟨hx, hb, hml, hown, hts⟩ (c_X3_greater l dC dI cI cJ cZ b kd vl lo hi nd so fr tg gn nr kp ah kx st mo ma fa op nx (kd p0.toNatClampNeg) (lo p0.toNatClampNeg) (m_less (kd p0.toNatClampNeg) (hi p0.toNatClampNeg) p1) ) (cwV 3 hts gX3_fitted_X3_greater rfl rfl rfl (by decide +kernel) ⟨Nat.le_of_ble_eq_true rfl, Nat.le_of_ble_eq_true rfl⟩) (fb_v hK hP (va_recv hK hP (ci := 2) (q0 := 0) rfl rfl)) rfl rfl hl.1 rfl (lv_room (Nat.le_of_ble_eq_true rfl)) dX3_fitted_30 ⟨Nat.zero_le _, Nat.zero_le _⟩) ?_
  exact W.lret (v := (m_greater (kd p0.toNatClampNeg) (lo p0.toNatClampNeg) (m_less (kd p0.toNatClampNeg) (hi p0.toNatClampNeg) p1))) hx hb hr (fun t ht hW => ⟨_, rfl, rfl, ht⟩) (fun _ h => by cases h) dX3_fitted_33
def m_gives (kd : Nat → Int32) (vl : Nat → Int64) (p0 : Int32) (p1 : Int32) (p2 : Int32) : Int64 :=
  if p0 = 0 then (m_greater (kd p1.toNatClampNeg) (vl p1.toNatClampNeg) (vl p2.toNatClampNeg))
  else if p0 = (1 : Int32) then (m_less (kd p1.toNatClampNeg) (vl p1.toNatClampNeg) (vl p2.toNatClampNeg))
    else if p0 = (2 : Int32) then (m_signed (kd p1.toNatClampNeg) (m_plain (kd p1.toNatClampNeg) (vl p2.toNatClampNeg)) (vl p1.toNatClampNeg))
      else (m_sizeOf (kd p1.toNatClampNeg) (vl p1.toNatClampNeg))
set_option maxHeartbeats 4000000 in
set_option maxRecDepth 100000 in
theorem c_X3_gives (l : Launch) (dC : Nat → ClassId) (dI : Nat → Nat → Nat) (cI cJ cZ : ClassId) (b : Nat → Nat) (kd : Nat → Int32) (vl : Nat → Int64) (lo : Nat → Int64) (hi : Nat → Int64) (nd : Int32) (so : Nat → Int32) (fr : Nat → Int32) (tg : Nat → Int32) (gn : Nat → Int32) (nr : Int32) (kp : Nat → Int64) (ah : Nat → Int64) (kx : Nat → Int32) (st : Int32) (mo : Int32) (ma : Int32) (fa : Int32) (op : Nat → Int32) (nx : Nat → Int32) (p0 : Int32) (p1 : Int32) (p2 : Int32) (hf : vp_in p1 16) (ht : vp_in p2 16) : Met l yX3_gives wsX3_gives ({ frames := 4, cells := 0, slots := 0, locals := 94 }) (va_Pc [.ref (b 0), .int p0, .int p1, .int p2] (fun U => va_P (dC, dI) vwCl (wM cI cJ cZ b kd vl lo hi nd so fr tg gn nr kp ah kx st mo ma fa op nx) U.heap ∧ va_K (dC, dI) vwCl (tA cI cJ cZ) U)) (vp_Sl (fun r => r = m_gives kd vl p0 p1 p2)) 0 0 (fun _ => False) := by
  refine Met.ofW (cc := cX3_gives) (maxL := 5) (ret := (some .long)) (by decide) rfl ?_
  intro p e s m args below meth c s₁ B hml hv
  obtain ⟨rfl, hP, hK⟩ := hv
  have hx := B.exec
  have hb := B.bytes
  have hr := B.returns
  have hts := atoms_spec (ws := wsX3_gives) B.pre
  have hown : s.vm.findClass RX3 = some m.cls := findClass_of_methodNamed B.named
  have hlocks := B.notSynchronized
  have h_inX3 : ∀ w ∈ wsX30, w ∈ wsX3_gives := fun _ h => List.mem_cons_of_mem _ (List.mem_append_right _ h)
  have k_0 := hts (.fieldLink RX3 7 "DetentCabinetModel" "kind" "[I") (by decide +kernel)
  have k_1 := hts (.fieldLink RX3 13 "DetentCabinetModel" "value" "[J") (by decide +kernel)
  have hl := lv_entry ([.ref (b 0), .int p0, .int p1, .int p2]) (n := 5) (Nat.le_of_ble_eq_true rfl)
  rw [lg_entry_eq]
  generalize (lg_sl ([.ref (b 0), .int p0, .int p1, .int p2]) ++ List.replicate (5 - (lg_sl ([.ref (b 0), .int p0, .int p1, .int p2])).length) Slot.unset).toArray = ls at hl ⊢
  have hl : lv_has ls 5 [(0, .ref (b 0)), (1, .int p0), (2, .int p1), (3, .int p2)] := hl
  refine lv_aload_n hx hb dX3_gives_0 rfl (lv_at hl 0 rfl) ?_
  refine va_get (D := (dC, dI)) (ci := 2) (v := .ref (b 1)) (C := RX3) (T := TX3) (N := 19) hx hb hts h_inX3 hown hK hP 0 rfl rfl 0 (by decide) k_0 (fun _ h9 => h9) rfl dX3_gives_1 ?_
  refine lv_iload_n hx hb dX3_gives_4 rfl (lv_at hl 2 rfl) ?_
  refine va_iald hx hb hK hP 1 0 rfl rfl (by assumption) dX3_gives_5 ?_
  refine lv_istore (lv' := [(4, .int (kd p1.toNatClampNeg)), (0, .ref (b 0)), (1, .int p0), (2, .int p1), (3, .int p2)]) hx hb dX3_gives_6 hl (by decide) rfl (fun ls hl => ?_)
  refine lv_iload_n hx hb dX3_gives_8 rfl (lv_at hl 2 rfl) ?_
  refine lv_if_ne (tgt := 31) hx hb dX3_gives_9 (by decide) (fun c_1 => ?_) (fun c_1 => ?_)
  · skip
    refine lv_iload_n hx hb dX3_gives_31 rfl (lv_at hl 2 rfl) ?_
    refine lv_iconst (v := 1) hx hb dX3_gives_32 (by decide) ?_
    refine lv_icmp_ne (tgt := 55) hx hb dX3_gives_33 (by decide) (fun c_2 => ?_) (fun c_2 => ?_)
    · skip
      refine lv_iload_n hx hb dX3_gives_55 rfl (lv_at hl 2 rfl) ?_
      refine lv_iconst (v := 2) hx hb dX3_gives_56 (by decide) ?_
      refine lv_icmp_ne (tgt := 85) hx hb dX3_gives_57 (by decide) (fun c_3 => ?_) (fun c_3 => ?_)
      · skip
        refine lv_aload_n hx hb dX3_gives_85 rfl (lv_at hl 1 rfl) ?_
        refine lv_iload hx hb dX3_gives_86 (lv_at hl 0 rfl) ?_
        refine lv_aload_n hx hb dX3_gives_88 rfl (lv_at hl 1 rfl) ?_
        refine va_get (D := (dC, dI)) (ci := 2) (v := .ref (b 2)) (C := RX3) (T := TX3) (N := 19) hx hb hts h_inX3 hown hK hP 0 rfl rfl 1 (by decide) k_1 (fun _ h9 => h9) rfl dX3_gives_89 ?_
        refine lv_iload_n hx hb dX3_gives_92 rfl (lv_at hl 3 rfl) ?_
        refine va_lald hx hb hK hP 2 1 rfl rfl (by assumption) dX3_gives_93 ?_
        refine cs_l (W.runV (As := [.int (kd p1.toNatClampNeg), .long (vl p1.toNatClampNeg)]) (rest := []) ⟨hx, hb, hml, hown, hts⟩ (c_X3_sizeOf l dC dI cI cJ cZ b kd vl lo hi nd so fr tg gn nr kp ah kx st mo ma fa op nx (kd p1.toNatClampNeg) (vl p1.toNatClampNeg) ) (cwV 2 hts gX3_gives_X3_sizeOf rfl rfl rfl (by decide +kernel) ⟨Nat.le_of_ble_eq_true rfl, Nat.le_of_ble_eq_true rfl⟩) (fb_v hK hP (va_recv hK hP (ci := 2) (q0 := 0) rfl rfl)) rfl rfl hl.1 rfl (lv_room (Nat.le_of_ble_eq_true rfl)) dX3_gives_94 ⟨Nat.zero_le _, Nat.zero_le _⟩) ?_
        exact W.lret (v := (m_sizeOf (kd p1.toNatClampNeg) (vl p1.toNatClampNeg))) hx hb hr (fun t ht hW => ⟨_, rfl, (by unfold m_gives; rw [if_neg c_1, if_neg c_2, if_neg c_3]), ht⟩) (fun _ h => by cases h) dX3_gives_97
      · skip
        refine lv_aload_n hx hb dX3_gives_60 rfl (lv_at hl 1 rfl) ?_
        refine lv_iload hx hb dX3_gives_61 (lv_at hl 0 rfl) ?_
        refine lv_aload_n hx hb dX3_gives_63 rfl (lv_at hl 1 rfl) ?_
        refine lv_iload hx hb dX3_gives_64 (lv_at hl 0 rfl) ?_
        refine lv_aload_n hx hb dX3_gives_66 rfl (lv_at hl 1 rfl) ?_
        refine va_get (D := (dC, dI)) (ci := 2) (v := .ref (b 2)) (C := RX3) (T := TX3) (N := 19) hx hb hts h_inX3 hown hK hP 0 rfl rfl 1 (by decide) k_1 (fun _ h9 => h9) rfl dX3_gives_67 ?_
        refine lv_iload_n hx hb dX3_gives_70 rfl (lv_at hl 4 rfl) ?_
        refine va_lald hx hb hK hP 2 1 rfl rfl (by assumption) dX3_gives_71 ?_
        refine cs_l (W.runV (As := [.int (kd p1.toNatClampNeg), .long (vl p2.toNatClampNeg)]) (rest := [.int (kd p1.toNatClampNeg), .ref (b 0)]) ⟨hx, hb, hml, hown, hts⟩ (c_X3_plain l dC dI cI cJ cZ b kd vl lo hi nd so fr tg gn nr kp ah kx st mo ma fa op nx (kd p1.toNatClampNeg) (vl p2.toNatClampNeg) ) (cwV 2 hts gX3_gives_X3_plain rfl rfl rfl (by decide +kernel) ⟨Nat.le_of_ble_eq_true rfl, Nat.le_of_ble_eq_true rfl⟩) (fb_v hK hP (va_recv hK hP (ci := 2) (q0 := 0) rfl rfl)) rfl rfl hl.1 rfl (lv_room (Nat.le_of_ble_eq_true rfl)) dX3_gives_72 ⟨Nat.zero_le _, Nat.zero_le _⟩) ?_
        refine lv_aload_n hx hb dX3_gives_75 rfl (lv_at hl 1 rfl) ?_
        refine va_get (D := (dC, dI)) (ci := 2) (v := .ref (b 2)) (C := RX3) (T := TX3) (N := 19) hx hb hts h_inX3 hown hK hP 0 rfl rfl 1 (by decide) k_1 (fun _ h9 => h9) rfl dX3_gives_76 ?_
        refine lv_iload_n hx hb dX3_gives_79 rfl (lv_at hl 3 rfl) ?_
        refine va_lald hx hb hK hP 2 1 rfl rfl (by assumption) dX3_gives_80 ?_
        refine cs_l (W.runV (As := [.int (kd p1.toNatClampNeg), .long (m_plain (kd p1.toNatClampNeg) (vl p2.toNatClampNeg)), .long (vl p1.toNatClampNeg)]) (rest := []) ⟨hx, hb, hml, hown, hts⟩ (c_X3_signed l dC dI cI cJ cZ b kd vl lo hi nd so fr tg gn nr kp ah kx st mo ma fa op nx (kd p1.toNatClampNeg) (m_plain (kd p1.toNatClampNeg) (vl p2.toNatClampNeg)) (vl p1.toNatClampNeg) ) (cwV 3 hts gX3_gives_X3_signed rfl rfl rfl (by decide +kernel) ⟨Nat.le_of_ble_eq_true rfl, Nat.le_of_ble_eq_true rfl⟩) (fb_v hK hP (va_recv hK hP (ci := 2) (q0 := 0) rfl rfl)) rfl rfl hl.1 rfl (lv_room (Nat.le_of_ble_eq_true rfl)) dX3_gives_81 ⟨Nat.zero_le _, Nat.zero_le _⟩) ?_
        exact W.lret (v := (m_signed (kd p1.toNatClampNeg) (m_plain (kd p1.toNatClampNeg) (vl p2.toNatClampNeg)) (vl p1.toNatClampNeg))) hx hb hr (fun t ht hW => ⟨_, rfl, (by unfold m_gives; rw [if_neg c_1, if_neg c_2, if_pos c_3]), ht⟩) (fun _ h => by cases h) dX3_gives_84
    · skip
      refine lv_aload_n hx hb dX3_gives_36 rfl (lv_at hl 1 rfl) ?_
      refine lv_iload hx hb dX3_gives_37 (lv_at hl 0 rfl) ?_
      refine lv_aload_n hx hb dX3_gives_39 rfl (lv_at hl 1 rfl) ?_
      refine va_get (D := (dC, dI)) (ci := 2) (v := .ref (b 2)) (C := RX3) (T := TX3) (N := 19) hx hb hts h_inX3 hown hK hP 0 rfl rfl 1 (by decide) k_1 (fun _ h9 => h9) rfl dX3_gives_40 ?_
      refine lv_iload_n hx hb dX3_gives_43 rfl (lv_at hl 3 rfl) ?_
      refine va_lald hx hb hK hP 2 1 rfl rfl (by assumption) dX3_gives_44 ?_
      refine lv_aload_n hx hb dX3_gives_45 rfl (lv_at hl 1 rfl) ?_
      refine va_get (D := (dC, dI)) (ci := 2) (v := .ref (b 2)) (C := RX3) (T := TX3) (N := 19) hx hb hts h_inX3 hown hK hP 0 rfl rfl 1 (by decide) k_1 (fun _ h9 => h9) rfl dX3_gives_46 ?_
      refine lv_iload_n hx hb dX3_gives_49 rfl (lv_at hl 4 rfl) ?_
      refine va_lald hx hb hK hP 2 1 rfl rfl (by assumption) dX3_gives_50 ?_
      refine cs_l (W.runV (As := [.int (kd p1.toNatClampNeg), .long (vl p1.toNatClampNeg), .long (vl p2.toNatClampNeg)]) (rest := []) ⟨hx, hb, hml, hown, hts⟩ (c_X3_less l dC dI cI cJ cZ b kd vl lo hi nd so fr tg gn nr kp ah kx st mo ma fa op nx (kd p1.toNatClampNeg) (vl p1.toNatClampNeg) (vl p2.toNatClampNeg) ) (cwV 3 hts gX3_gives_X3_less rfl rfl rfl (by decide +kernel) ⟨Nat.le_of_ble_eq_true rfl, Nat.le_of_ble_eq_true rfl⟩) (fb_v hK hP (va_recv hK hP (ci := 2) (q0 := 0) rfl rfl)) rfl rfl hl.1 rfl (lv_room (Nat.le_of_ble_eq_true rfl)) dX3_gives_51 ⟨Nat.zero_le _, Nat.zero_le _⟩) ?_
      exact W.lret (v := (m_less (kd p1.toNatClampNeg) (vl p1.toNatClampNeg) (vl p2.toNatClampNeg))) hx hb hr (fun t ht hW => ⟨_, rfl, (by unfold m_gives; rw [if_neg c_1, if_pos c_2]), ht⟩) (fun _ h => by cases h) dX3_gives_54
  · skip
    refine lv_aload_n hx hb dX3_gives_12 rfl (lv_at hl 1 rfl) ?_
    refine lv_iload hx hb dX3_gives_13 (lv_at hl 0 rfl) ?_
    refine lv_aload_n hx hb dX3_gives_15 rfl (lv_at hl 1 rfl) ?_
    refine va_get (D := (dC, dI)) (ci := 2) (v := .ref (b 2)) (C := RX3) (T := TX3) (N := 19) hx hb hts h_inX3 hown hK hP 0 rfl rfl 1 (by decide) k_1 (fun _ h9 => h9) rfl dX3_gives_16 ?_
    refine lv_iload_n hx hb dX3_gives_19 rfl (lv_at hl 3 rfl) ?_
    refine va_lald hx hb hK hP 2 1 rfl rfl (by assumption) dX3_gives_20 ?_
    refine lv_aload_n hx hb dX3_gives_21 rfl (lv_at hl 1 rfl) ?_
    refine va_get (D := (dC, dI)) (ci := 2) (v := .ref (b 2)) (C := RX3) (T := TX3) (N := 19) hx hb hts h_inX3 hown hK hP 0 rfl rfl 1 (by decide) k_1 (fun _ h9 => h9) rfl dX3_gives_22 ?_
    refine lv_iload_n hx hb dX3_gives_25 rfl (lv_at hl 4 rfl) ?_
    refine va_lald hx hb hK hP 2 1 rfl rfl (by assumption) dX3_gives_26 ?_
    refine cs_l (W.runV (As := [.int (kd p1.toNatClampNeg), .long (vl p1.toNatClampNeg), .long (vl p2.toNatClampNeg)]) (rest := []) ⟨hx, hb, hml, hown, hts⟩ (c_X3_greater l dC dI cI cJ cZ b kd vl lo hi nd so fr tg gn nr kp ah kx st mo ma fa op nx (kd p1.toNatClampNeg) (vl p1.toNatClampNeg) (vl p2.toNatClampNeg) ) (cwV 3 hts gX3_gives_X3_greater rfl rfl rfl (by decide +kernel) ⟨Nat.le_of_ble_eq_true rfl, Nat.le_of_ble_eq_true rfl⟩) (fb_v hK hP (va_recv hK hP (ci := 2) (q0 := 0) rfl rfl)) rfl rfl hl.1 rfl (lv_room (Nat.le_of_ble_eq_true rfl)) dX3_gives_27 ⟨Nat.zero_le _, Nat.zero_le _⟩) ?_
    exact W.lret (v := (m_greater (kd p1.toNatClampNeg) (vl p1.toNatClampNeg) (vl p2.toNatClampNeg))) hx hb hr (fun t ht hW => ⟨_, rfl, (by unfold m_gives; rw [if_pos c_1]), ht⟩) (fun _ h => by cases h) dX3_gives_30
def m_reason (kd : Nat → Int32) (p0 : Int32) (p1 : Int32) (p2 : Int32) : Int32 :=
  if (kd p1.toNatClampNeg) = (kd p2.toNatClampNeg) then (if p1 = p2 then (6 : Int32)
    else if p0 = (2 : Int32) then (if (m_isReal (kd p1.toNatClampNeg)) = 0 then (2 : Int32)
        else (0 : Int32))
      else (0 : Int32))
  else (6 : Int32)
set_option maxHeartbeats 4000000 in
set_option maxRecDepth 100000 in
theorem c_X3_reason (l : Launch) (dC : Nat → ClassId) (dI : Nat → Nat → Nat) (cI cJ cZ : ClassId) (b : Nat → Nat) (kd : Nat → Int32) (vl : Nat → Int64) (lo : Nat → Int64) (hi : Nat → Int64) (nd : Int32) (so : Nat → Int32) (fr : Nat → Int32) (tg : Nat → Int32) (gn : Nat → Int32) (nr : Int32) (kp : Nat → Int64) (ah : Nat → Int64) (kx : Nat → Int32) (st : Int32) (mo : Int32) (ma : Int32) (fa : Int32) (op : Nat → Int32) (nx : Nat → Int32) (p0 : Int32) (p1 : Int32) (p2 : Int32) (hf : vp_in p1 16) (ht : vp_in p2 16) : Met l yX3_reason wsX3_reason ({ frames := 1, cells := 0, slots := 0, locals := 21 }) (va_Pc [.ref (b 0), .int p0, .int p1, .int p2] (fun U => va_P (dC, dI) vwCl (wM cI cJ cZ b kd vl lo hi nd so fr tg gn nr kp ah kx st mo ma fa op nx) U.heap ∧ va_K (dC, dI) vwCl (tA cI cJ cZ) U)) (vp_Si (fun r => r = m_reason kd p0 p1 p2)) 0 0 (fun _ => False) := by
  refine Met.ofW (cc := cX3_reason) (maxL := 4) (ret := (some .int)) (by decide) rfl ?_
  intro p e s m args below meth c s₁ B hml hv
  obtain ⟨rfl, hP, hK⟩ := hv
  have hx := B.exec
  have hb := B.bytes
  have hr := B.returns
  have hts := atoms_spec (ws := wsX3_reason) B.pre
  have hown : s.vm.findClass RX3 = some m.cls := findClass_of_methodNamed B.named
  have hlocks := B.notSynchronized
  have h_inX3 : ∀ w ∈ wsX30, w ∈ wsX3_reason := fun _ h => List.mem_cons_of_mem _ (List.mem_append_right _ h)
  have k_0 := hts (.fieldLink RX3 7 "DetentCabinetModel" "kind" "[I") (by decide +kernel)
  have hl := lv_entry ([.ref (b 0), .int p0, .int p1, .int p2]) (n := 4) (Nat.le_of_ble_eq_true rfl)
  rw [lg_entry_eq]
  generalize (lg_sl ([.ref (b 0), .int p0, .int p1, .int p2]) ++ List.replicate (4 - (lg_sl ([.ref (b 0), .int p0, .int p1, .int p2])).length) Slot.unset).toArray = ls at hl ⊢
  have hl : lv_has ls 4 [(0, .ref (b 0)), (1, .int p0), (2, .int p1), (3, .int p2)] := hl
  refine lv_aload_n hx hb dX3_reason_0 rfl (lv_at hl 0 rfl) ?_
  refine va_get (D := (dC, dI)) (ci := 2) (v := .ref (b 1)) (C := RX3) (T := TX3) (N := 19) hx hb hts h_inX3 hown hK hP 0 rfl rfl 0 (by decide) k_0 (fun _ h9 => h9) rfl dX3_reason_1 ?_
  refine lv_iload_n hx hb dX3_reason_4 rfl (lv_at hl 2 rfl) ?_
  refine va_iald hx hb hK hP 1 0 rfl rfl (by assumption) dX3_reason_5 ?_
  refine lv_aload_n hx hb dX3_reason_6 rfl (lv_at hl 0 rfl) ?_
  refine va_get (D := (dC, dI)) (ci := 2) (v := .ref (b 1)) (C := RX3) (T := TX3) (N := 19) hx hb hts h_inX3 hown hK hP 0 rfl rfl 0 (by decide) k_0 (fun _ h9 => h9) rfl dX3_reason_7 ?_
  refine lv_iload_n hx hb dX3_reason_10 rfl (lv_at hl 3 rfl) ?_
  refine va_iald hx hb hK hP 1 0 rfl rfl (by assumption) dX3_reason_11 ?_
  refine lv_icmp_ne (tgt := 20) hx hb dX3_reason_12 (by decide) (fun c_1 => ?_) (fun c_1 => ?_)
  · skip
    refine lv_bipush (v := 6) hx hb dX3_reason_20 (by decide) ?_
    exact W.iret (v := (6 : Int32)) hx hb hr (fun t ht hW => ⟨_, rfl, (by unfold m_reason; rw [if_neg c_1]), ht⟩) (fun _ h => by cases h) dX3_reason_22
  · skip
    refine lv_iload_n hx hb dX3_reason_15 rfl (lv_at hl 2 rfl) ?_
    refine lv_iload_n hx hb dX3_reason_16 rfl (lv_at hl 3 rfl) ?_
    refine lv_icmp_ne (tgt := 23) hx hb dX3_reason_17 (by decide) (fun c_2 => ?_) (fun c_2 => ?_)
    · skip
      refine lv_iload_n hx hb dX3_reason_23 rfl (lv_at hl 1 rfl) ?_
      refine lv_iconst (v := 2) hx hb dX3_reason_24 (by decide) ?_
      refine lv_icmp_ne (tgt := 45) hx hb dX3_reason_25 (by decide) (fun c_3 => ?_) (fun c_3 => ?_)
      · skip
        refine lv_iconst (v := 0) hx hb dX3_reason_45 (by decide) ?_
        exact W.iret (v := (0 : Int32)) hx hb hr (fun t ht hW => ⟨_, rfl, (by unfold m_reason; rw [if_pos c_1, if_neg c_2, if_neg c_3]), ht⟩) (fun _ h => by cases h) dX3_reason_46
      · skip
        refine lv_aload_n hx hb dX3_reason_28 rfl (lv_at hl 0 rfl) ?_
        refine lv_aload_n hx hb dX3_reason_29 rfl (lv_at hl 0 rfl) ?_
        refine va_get (D := (dC, dI)) (ci := 2) (v := .ref (b 1)) (C := RX3) (T := TX3) (N := 19) hx hb hts h_inX3 hown hK hP 0 rfl rfl 0 (by decide) k_0 (fun _ h9 => h9) rfl dX3_reason_30 ?_
        refine lv_iload_n hx hb dX3_reason_33 rfl (lv_at hl 2 rfl) ?_
        refine va_iald hx hb hK hP 1 0 rfl rfl (by assumption) dX3_reason_34 ?_
        refine cs_i (W.runV (As := [.int (kd p1.toNatClampNeg)]) (rest := []) ⟨hx, hb, hml, hown, hts⟩ (c_X3_isReal l dC dI cI cJ cZ b kd vl lo hi nd so fr tg gn nr kp ah kx st mo ma fa op nx (kd p1.toNatClampNeg) ) (cwV 1 hts gX3_reason_X3_isReal rfl rfl rfl (by decide +kernel) ⟨Nat.le_of_ble_eq_true rfl, Nat.le_of_ble_eq_true rfl⟩) (fb_v hK hP (va_recv hK hP (ci := 2) (q0 := 0) rfl rfl)) rfl rfl hl.1 rfl (lv_room (Nat.le_of_ble_eq_true rfl)) dX3_reason_35 ⟨Nat.zero_le _, Nat.zero_le _⟩) ?_
        refine lv_if_ne (tgt := 45) hx hb dX3_reason_38 (by decide) (fun c_4 => ?_) (fun c_4 => ?_)
        · skip
          refine lv_iconst (v := 0) hx hb dX3_reason_45 (by decide) ?_
          exact W.iret (v := (0 : Int32)) hx hb hr (fun t ht hW => ⟨_, rfl, (by unfold m_reason; rw [if_pos c_1, if_neg c_2, if_pos c_3, if_neg c_4]), ht⟩) (fun _ h => by cases h) dX3_reason_46
        · skip
          refine lv_iconst (v := 2) hx hb dX3_reason_41 (by decide) ?_
          refine lv_goto (tgt := 46) hx hb dX3_reason_42 (by decide) ?_
          exact W.iret (v := (2 : Int32)) hx hb hr (fun t ht hW => ⟨_, rfl, (by unfold m_reason; rw [if_pos c_1, if_neg c_2, if_pos c_3, if_pos c_4]), ht⟩) (fun _ h => by cases h) dX3_reason_46
    · skip
      refine lv_bipush (v := 6) hx hb dX3_reason_20 (by decide) ?_
      exact W.iret (v := (6 : Int32)) hx hb hr (fun t ht hW => ⟨_, rfl, (by unfold m_reason; rw [if_pos c_1, if_pos c_2]), ht⟩) (fun _ h => by cases h) dX3_reason_22
def m_look (kd : Nat → Int32) (vl : Nat → Int64) (lo : Nat → Int64) (hi : Nat → Int64) (nd : Int32) (p0 : Int32) (p1 : Int32) : Int64 :=
  if (m_isDial nd p0) = 0 then (0 : Int64)
  else if p1 = 0 then (vl p0.toNatClampNeg)
    else if p1 = (1 : Int32) then (lo p0.toNatClampNeg)
      else if p1 = (2 : Int32) then (hi p0.toNatClampNeg)
        else if p1 = (3 : Int32) then (kd p0.toNatClampNeg).toInt64
          else (0 : Int64)
set_option maxHeartbeats 4000000 in
set_option maxRecDepth 100000 in
theorem c_X3_look (l : Launch) (dC : Nat → ClassId) (dI : Nat → Nat → Nat) (cI cJ cZ : ClassId) (b : Nat → Nat) (kd : Nat → Int32) (vl : Nat → Int64) (lo : Nat → Int64) (hi : Nat → Int64) (nd : Int32) (so : Nat → Int32) (fr : Nat → Int32) (tg : Nat → Int32) (gn : Nat → Int32) (nr : Int32) (kp : Nat → Int64) (ah : Nat → Int64) (kx : Nat → Int32) (st : Int32) (mo : Int32) (ma : Int32) (fa : Int32) (op : Nat → Int32) (nx : Nat → Int32) (p0 : Int32) (p1 : Int32) (hn : nd ≤ 16) : Met l yX3_look wsX3_look ({ frames := 1, cells := 0, slots := 0, locals := 21 }) (va_Pc [.ref (b 0), .int p0, .int p1] (fun U => va_P (dC, dI) vwCl (wM cI cJ cZ b kd vl lo hi nd so fr tg gn nr kp ah kx st mo ma fa op nx) U.heap ∧ va_K (dC, dI) vwCl (tA cI cJ cZ) U)) (vp_Sl (fun r => r = m_look kd vl lo hi nd p0 p1)) 0 0 (fun _ => False) := by
  refine Met.ofW (cc := cX3_look) (maxL := 3) (ret := (some .long)) (by decide) rfl ?_
  intro p e s m args below meth c s₁ B hml hv
  obtain ⟨rfl, hP, hK⟩ := hv
  have hx := B.exec
  have hb := B.bytes
  have hr := B.returns
  have hts := atoms_spec (ws := wsX3_look) B.pre
  have hown : s.vm.findClass RX3 = some m.cls := findClass_of_methodNamed B.named
  have hlocks := B.notSynchronized
  have h_inX3 : ∀ w ∈ wsX30, w ∈ wsX3_look := fun _ h => List.mem_cons_of_mem _ (List.mem_append_right _ h)
  have k_0 := hts (.fieldLink RX3 7 "DetentCabinetModel" "kind" "[I") (by decide +kernel)
  have k_1 := hts (.fieldLink RX3 20 "DetentCabinetModel" "high" "[J") (by decide +kernel)
  have k_2 := hts (.fieldLink RX3 17 "DetentCabinetModel" "low" "[J") (by decide +kernel)
  have k_3 := hts (.fieldLink RX3 13 "DetentCabinetModel" "value" "[J") (by decide +kernel)
  have hl := lv_entry ([.ref (b 0), .int p0, .int p1]) (n := 3) (Nat.le_of_ble_eq_true rfl)
  rw [lg_entry_eq]
  generalize (lg_sl ([.ref (b 0), .int p0, .int p1]) ++ List.replicate (3 - (lg_sl ([.ref (b 0), .int p0, .int p1])).length) Slot.unset).toArray = ls at hl ⊢
  have hl : lv_has ls 3 [(0, .ref (b 0)), (1, .int p0), (2, .int p1)] := hl
  refine lv_aload_n hx hb dX3_look_0 rfl (lv_at hl 0 rfl) ?_
  refine lv_iload_n hx hb dX3_look_1 rfl (lv_at hl 1 rfl) ?_
  refine cs_i (W.runV (As := [.int p0]) (rest := []) ⟨hx, hb, hml, hown, hts⟩ (c_X3_isDial l dC dI cI cJ cZ b kd vl lo hi nd so fr tg gn nr kp ah kx st mo ma fa op nx p0 ) (cwV 1 hts gX3_look_X3_isDial rfl rfl rfl (by decide +kernel) ⟨Nat.le_of_ble_eq_true rfl, Nat.le_of_ble_eq_true rfl⟩) (fb_v hK hP (va_recv hK hP (ci := 2) (q0 := 0) rfl rfl)) rfl rfl hl.1 rfl (lv_room (Nat.le_of_ble_eq_true rfl)) dX3_look_2 ⟨Nat.zero_le _, Nat.zero_le _⟩) ?_
  refine lv_if_ne (tgt := 10) hx hb dX3_look_5 (by decide) (fun c_1 => ?_) (fun c_1 => ?_)
  · skip
    refine lv_iload_n hx hb dX3_look_10 rfl (lv_at hl 2 rfl) ?_
    refine lv_if_ne (tgt := 23) hx hb dX3_look_11 (by decide) (fun c_2 => ?_) (fun c_2 => ?_)
    · skip
      refine lv_iload_n hx hb dX3_look_23 rfl (lv_at hl 2 rfl) ?_
      refine lv_iconst (v := 1) hx hb dX3_look_24 (by decide) ?_
      refine lv_icmp_ne (tgt := 37) hx hb dX3_look_25 (by decide) (fun c_3 => ?_) (fun c_3 => ?_)
      · skip
        refine lv_iload_n hx hb dX3_look_37 rfl (lv_at hl 2 rfl) ?_
        refine lv_iconst (v := 2) hx hb dX3_look_38 (by decide) ?_
        refine lv_icmp_ne (tgt := 51) hx hb dX3_look_39 (by decide) (fun c_4 => ?_) (fun c_4 => ?_)
        · skip
          refine lv_iload_n hx hb dX3_look_51 rfl (lv_at hl 2 rfl) ?_
          refine lv_iconst (v := 3) hx hb dX3_look_52 (by decide) ?_
          refine lv_icmp_ne (tgt := 66) hx hb dX3_look_53 (by decide) (fun c_5 => ?_) (fun c_5 => ?_)
          · skip
            refine lv_lconst (v := 0) hx hb dX3_look_66 (by decide) ?_
            exact W.lret (v := (0 : Int64)) hx hb hr (fun t ht hW => ⟨_, rfl, (by unfold m_look; rw [if_neg c_1, if_neg c_2, if_neg c_3, if_neg c_4, if_neg c_5]), ht⟩) (fun _ h => by cases h) dX3_look_67
          · skip
            refine lv_aload_n hx hb dX3_look_56 rfl (lv_at hl 0 rfl) ?_
            refine va_get (D := (dC, dI)) (ci := 2) (v := .ref (b 1)) (C := RX3) (T := TX3) (N := 19) hx hb hts h_inX3 hown hK hP 0 rfl rfl 0 (by decide) k_0 (fun _ h9 => h9) rfl dX3_look_57 ?_
            refine lv_iload_n hx hb dX3_look_60 rfl (lv_at hl 1 rfl) ?_
            refine va_iald hx hb hK hP 1 0 rfl rfl (in_dm hn (by assumption)) dX3_look_61 ?_
            refine lv_i2l hx hb dX3_look_62 rfl ?_
            refine lv_goto (tgt := 67) hx hb dX3_look_63 (by decide) ?_
            exact W.lret (v := (kd p0.toNatClampNeg).toInt64) hx hb hr (fun t ht hW => ⟨_, rfl, (by unfold m_look; rw [if_neg c_1, if_neg c_2, if_neg c_3, if_neg c_4, if_pos c_5]), ht⟩) (fun _ h => by cases h) dX3_look_67
        · skip
          refine lv_aload_n hx hb dX3_look_42 rfl (lv_at hl 0 rfl) ?_
          refine va_get (D := (dC, dI)) (ci := 2) (v := .ref (b 4)) (C := RX3) (T := TX3) (N := 19) hx hb hts h_inX3 hown hK hP 0 rfl rfl 3 (by decide) k_1 (fun _ h9 => h9) rfl dX3_look_43 ?_
          refine lv_iload_n hx hb dX3_look_46 rfl (lv_at hl 1 rfl) ?_
          refine va_lald hx hb hK hP 4 1 rfl rfl (in_dm hn (by assumption)) dX3_look_47 ?_
          refine lv_goto (tgt := 67) hx hb dX3_look_48 (by decide) ?_
          exact W.lret (v := (hi p0.toNatClampNeg)) hx hb hr (fun t ht hW => ⟨_, rfl, (by unfold m_look; rw [if_neg c_1, if_neg c_2, if_neg c_3, if_pos c_4]), ht⟩) (fun _ h => by cases h) dX3_look_67
      · skip
        refine lv_aload_n hx hb dX3_look_28 rfl (lv_at hl 0 rfl) ?_
        refine va_get (D := (dC, dI)) (ci := 2) (v := .ref (b 3)) (C := RX3) (T := TX3) (N := 19) hx hb hts h_inX3 hown hK hP 0 rfl rfl 2 (by decide) k_2 (fun _ h9 => h9) rfl dX3_look_29 ?_
        refine lv_iload_n hx hb dX3_look_32 rfl (lv_at hl 1 rfl) ?_
        refine va_lald hx hb hK hP 3 1 rfl rfl (in_dm hn (by assumption)) dX3_look_33 ?_
        refine lv_goto (tgt := 67) hx hb dX3_look_34 (by decide) ?_
        exact W.lret (v := (lo p0.toNatClampNeg)) hx hb hr (fun t ht hW => ⟨_, rfl, (by unfold m_look; rw [if_neg c_1, if_neg c_2, if_pos c_3]), ht⟩) (fun _ h => by cases h) dX3_look_67
    · skip
      refine lv_aload_n hx hb dX3_look_14 rfl (lv_at hl 0 rfl) ?_
      refine va_get (D := (dC, dI)) (ci := 2) (v := .ref (b 2)) (C := RX3) (T := TX3) (N := 19) hx hb hts h_inX3 hown hK hP 0 rfl rfl 1 (by decide) k_3 (fun _ h9 => h9) rfl dX3_look_15 ?_
      refine lv_iload_n hx hb dX3_look_18 rfl (lv_at hl 1 rfl) ?_
      refine va_lald hx hb hK hP 2 1 rfl rfl (in_dm hn (by assumption)) dX3_look_19 ?_
      refine lv_goto (tgt := 67) hx hb dX3_look_20 (by decide) ?_
      exact W.lret (v := (vl p0.toNatClampNeg)) hx hb hr (fun t ht hW => ⟨_, rfl, (by unfold m_look; rw [if_neg c_1, if_pos c_2]), ht⟩) (fun _ h => by cases h) dX3_look_67
  · skip
    refine lv_lconst (v := 0) hx hb dX3_look_8 (by decide) ?_
    exact W.lret (v := (0 : Int64)) hx hb hr (fun t ht hW => ⟨_, rfl, (by unfold m_look; rw [if_pos c_1]), ht⟩) (fun _ h => by cases h) dX3_look_9
def m_count (nd : Int32) (nr : Int32) (st : Int32) (ma : Int32) (fa : Int32) (p0 : Int32) : Int32 :=
  if p0 = 0 then nd
  else if p0 = (1 : Int32) then nr
    else if p0 = (2 : Int32) then st
      else if p0 = (3 : Int32) then ma
        else if p0 = (4 : Int32) then fa
          else (-1 : Int32)
set_option maxHeartbeats 4000000 in
set_option maxRecDepth 100000 in
theorem c_X3_count (l : Launch) (dC : Nat → ClassId) (dI : Nat → Nat → Nat) (cI cJ cZ : ClassId) (b : Nat → Nat) (kd : Nat → Int32) (vl : Nat → Int64) (lo : Nat → Int64) (hi : Nat → Int64) (nd : Int32) (so : Nat → Int32) (fr : Nat → Int32) (tg : Nat → Int32) (gn : Nat → Int32) (nr : Int32) (kp : Nat → Int64) (ah : Nat → Int64) (kx : Nat → Int32) (st : Int32) (mo : Int32) (ma : Int32) (fa : Int32) (op : Nat → Int32) (nx : Nat → Int32) (p0 : Int32) : Met l yX3_count wsX3_count ({ frames := 0, cells := 0, slots := 0, locals := 0 }) (va_Pc [.ref (b 0), .int p0] (fun U => va_P (dC, dI) vwCl (wM cI cJ cZ b kd vl lo hi nd so fr tg gn nr kp ah kx st mo ma fa op nx) U.heap ∧ va_K (dC, dI) vwCl (tA cI cJ cZ) U)) (vp_Si (fun r => r = m_count nd nr st ma fa p0)) 0 0 (fun _ => False) := by
  refine Met.ofW (cc := cX3_count) (maxL := 2) (ret := (some .int)) (by decide) rfl ?_
  intro p e s m args below meth c s₁ B hml hv
  obtain ⟨rfl, hP, hK⟩ := hv
  have hx := B.exec
  have hb := B.bytes
  have hr := B.returns
  have hts := atoms_spec (ws := wsX3_count) B.pre
  have hown : s.vm.findClass RX3 = some m.cls := findClass_of_methodNamed B.named
  have hlocks := B.notSynchronized
  have h_inX3 : ∀ w ∈ wsX30, w ∈ wsX3_count := fun _ h => List.mem_cons_of_mem _ (List.mem_append_right _ h)
  have k_0 := hts (.fieldLink RX3 55 "DetentCabinetModel" "fault" "I") (by decide +kernel)
  have k_1 := hts (.fieldLink RX3 137 "DetentCabinetModel" "movesInAll" "I") (by decide +kernel)
  have k_2 := hts (.fieldLink RX3 143 "DetentCabinetModel" "steps" "I") (by decide +kernel)
  have k_3 := hts (.fieldLink RX3 126 "DetentCabinetModel" "rods" "I") (by decide +kernel)
  have k_4 := hts (.fieldLink RX3 51 "DetentCabinetModel" "dials" "I") (by decide +kernel)
  have hl := lv_entry ([.ref (b 0), .int p0]) (n := 2) (Nat.le_of_ble_eq_true rfl)
  rw [lg_entry_eq]
  generalize (lg_sl ([.ref (b 0), .int p0]) ++ List.replicate (2 - (lg_sl ([.ref (b 0), .int p0])).length) Slot.unset).toArray = ls at hl ⊢
  have hl : lv_has ls 2 [(0, .ref (b 0)), (1, .int p0)] := hl
  refine lv_iload_n hx hb dX3_count_0 rfl (lv_at hl 1 rfl) ?_
  refine lv_if_ne (tgt := 11) hx hb dX3_count_1 (by decide) (fun c_1 => ?_) (fun c_1 => ?_)
  · skip
    refine lv_iload_n hx hb dX3_count_11 rfl (lv_at hl 1 rfl) ?_
    refine lv_iconst (v := 1) hx hb dX3_count_12 (by decide) ?_
    refine lv_icmp_ne (tgt := 23) hx hb dX3_count_13 (by decide) (fun c_2 => ?_) (fun c_2 => ?_)
    · skip
      refine lv_iload_n hx hb dX3_count_23 rfl (lv_at hl 1 rfl) ?_
      refine lv_iconst (v := 2) hx hb dX3_count_24 (by decide) ?_
      refine lv_icmp_ne (tgt := 35) hx hb dX3_count_25 (by decide) (fun c_3 => ?_) (fun c_3 => ?_)
      · skip
        refine lv_iload_n hx hb dX3_count_35 rfl (lv_at hl 1 rfl) ?_
        refine lv_iconst (v := 3) hx hb dX3_count_36 (by decide) ?_
        refine lv_icmp_ne (tgt := 47) hx hb dX3_count_37 (by decide) (fun c_4 => ?_) (fun c_4 => ?_)
        · skip
          refine lv_iload_n hx hb dX3_count_47 rfl (lv_at hl 1 rfl) ?_
          refine lv_iconst (v := 4) hx hb dX3_count_48 (by decide) ?_
          refine lv_icmp_ne (tgt := 59) hx hb dX3_count_49 (by decide) (fun c_5 => ?_) (fun c_5 => ?_)
          · skip
            refine lv_iconst (v := (-1)) hx hb dX3_count_59 (by decide) ?_
            exact W.iret (v := (-1 : Int32)) hx hb hr (fun t ht hW => ⟨_, rfl, (by unfold m_count; rw [if_neg c_1, if_neg c_2, if_neg c_3, if_neg c_4, if_neg c_5]), ht⟩) (fun _ h => by cases h) dX3_count_60
          · skip
            refine lv_aload_n hx hb dX3_count_52 rfl (lv_at hl 0 rfl) ?_
            refine va_get (D := (dC, dI)) (ci := 2) (v := .int fa) (C := RX3) (T := TX3) (N := 19) hx hb hts h_inX3 hown hK hP 0 rfl rfl 16 (by decide) k_0 (fun _ h9 => h9) rfl dX3_count_53 ?_
            refine lv_goto (tgt := 60) hx hb dX3_count_56 (by decide) ?_
            exact W.iret (v := fa) hx hb hr (fun t ht hW => ⟨_, rfl, (by unfold m_count; rw [if_neg c_1, if_neg c_2, if_neg c_3, if_neg c_4, if_pos c_5]), ht⟩) (fun _ h => by cases h) dX3_count_60
        · skip
          refine lv_aload_n hx hb dX3_count_40 rfl (lv_at hl 0 rfl) ?_
          refine va_get (D := (dC, dI)) (ci := 2) (v := .int ma) (C := RX3) (T := TX3) (N := 19) hx hb hts h_inX3 hown hK hP 0 rfl rfl 15 (by decide) k_1 (fun _ h9 => h9) rfl dX3_count_41 ?_
          refine lv_goto (tgt := 60) hx hb dX3_count_44 (by decide) ?_
          exact W.iret (v := ma) hx hb hr (fun t ht hW => ⟨_, rfl, (by unfold m_count; rw [if_neg c_1, if_neg c_2, if_neg c_3, if_pos c_4]), ht⟩) (fun _ h => by cases h) dX3_count_60
      · skip
        refine lv_aload_n hx hb dX3_count_28 rfl (lv_at hl 0 rfl) ?_
        refine va_get (D := (dC, dI)) (ci := 2) (v := .int st) (C := RX3) (T := TX3) (N := 19) hx hb hts h_inX3 hown hK hP 0 rfl rfl 13 (by decide) k_2 (fun _ h9 => h9) rfl dX3_count_29 ?_
        refine lv_goto (tgt := 60) hx hb dX3_count_32 (by decide) ?_
        exact W.iret (v := st) hx hb hr (fun t ht hW => ⟨_, rfl, (by unfold m_count; rw [if_neg c_1, if_neg c_2, if_pos c_3]), ht⟩) (fun _ h => by cases h) dX3_count_60
    · skip
      refine lv_aload_n hx hb dX3_count_16 rfl (lv_at hl 0 rfl) ?_
      refine va_get (D := (dC, dI)) (ci := 2) (v := .int nr) (C := RX3) (T := TX3) (N := 19) hx hb hts h_inX3 hown hK hP 0 rfl rfl 9 (by decide) k_3 (fun _ h9 => h9) rfl dX3_count_17 ?_
      refine lv_goto (tgt := 60) hx hb dX3_count_20 (by decide) ?_
      exact W.iret (v := nr) hx hb hr (fun t ht hW => ⟨_, rfl, (by unfold m_count; rw [if_neg c_1, if_pos c_2]), ht⟩) (fun _ h => by cases h) dX3_count_60
  · skip
    refine lv_aload_n hx hb dX3_count_4 rfl (lv_at hl 0 rfl) ?_
    refine va_get (D := (dC, dI)) (ci := 2) (v := .int nd) (C := RX3) (T := TX3) (N := 19) hx hb hts h_inX3 hown hK hP 0 rfl rfl 4 (by decide) k_4 (fun _ h9 => h9) rfl dX3_count_5 ?_
    refine lv_goto (tgt := 60) hx hb dX3_count_8 (by decide) ?_
    exact W.iret (v := nd) hx hb hr (fun t ht hW => ⟨_, rfl, (by unfold m_count; rw [if_pos c_1]), ht⟩) (fun _ h => by cases h) dX3_count_60
