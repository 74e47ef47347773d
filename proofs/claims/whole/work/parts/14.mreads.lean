def m_isReal (p0 : Int32) : Int32 :=
  if p0 ≤ (1 : Int32) then (0 : Int32)
  else (1 : Int32)
set_option maxHeartbeats 4000000 in
set_option maxRecDepth 100000 in
theorem c_X3_isReal (l : Launch) (dC : Nat → ClassId) (dI : Nat → Nat → Nat) (cI cJ cZ : ClassId) (b : Nat → Nat) (kd : Nat → Int32) (vl : Nat → Int64) (lo : Nat → Int64) (hi : Nat → Int64) (nd : Int32) (so : Nat → Int32) (fr : Nat → Int32) (tg : Nat → Int32) (gn : Nat → Int32) (nr : Int32) (kp : Nat → Int64) (ah : Nat → Int64) (kx : Nat → Int32) (st : Int32) (mo : Int32) (ma : Int32) (fa : Int32) (op : Nat → Int32) (nx : Nat → Int32) (p0 : Int32) : Met l yX3_isReal wsX3_isReal ({ frames := 0, cells := 0, slots := 0, locals := 0 }) (va_Pc [.ref (b 0), .int p0] (fun U => va_P (dC, dI) vwCl (wM cI cJ cZ b kd vl lo hi nd so fr tg gn nr kp ah kx st mo ma fa op nx) U.heap ∧ va_K (dC, dI) vwCl (tA cI cJ cZ) U)) (vp_Si (fun r => r = m_isReal p0)) 0 0 (fun _ => False) := by
  refine Met.ofW (cc := cX3_isReal) (maxL := 2) (ret := (some .boolean)) (by decide) rfl ?_
  intro p e s m args below meth c s₁ B hml hv
  obtain ⟨rfl, hP, hK⟩ := hv
  have hx := B.exec
  have hb := B.bytes
  have hr := B.returns
  have hts := atoms_spec (ws := wsX3_isReal) B.pre
  have hown : s.vm.findClass RX3 = some m.cls := findClass_of_methodNamed B.named
  have hlocks := B.notSynchronized
  have hl := lv_entry ([.ref (b 0), .int p0]) (n := 2) (Nat.le_of_ble_eq_true rfl)
  rw [lg_entry_eq]
  generalize (lg_sl ([.ref (b 0), .int p0]) ++ List.replicate (2 - (lg_sl ([.ref (b 0), .int p0])).length) Slot.unset).toArray = ls at hl ⊢
  have hl : lv_has ls 2 [(0, .ref (b 0)), (1, .int p0)] := hl
  refine lv_iload_n hx hb dX3_isReal_0 rfl (lv_at hl 1 rfl) ?_
  refine lv_iconst (v := 1) hx hb dX3_isReal_1 (by decide) ?_
  refine lv_icmp_le (tgt := 9) hx hb dX3_isReal_2 (by decide) (fun c_1 => ?_) (fun c_1 => ?_)
  · skip
    refine lv_iconst (v := 0) hx hb dX3_isReal_9 (by decide) ?_
    exact W.zret (v := (0 : Int32)) hx hb hr (by first | rfl | decide | assumption) (fun t ht hW => ⟨_, rfl, (by unfold m_isReal; rw [if_pos c_1]), ht⟩) (fun _ h => by cases h) dX3_isReal_10
  · skip
    refine lv_iconst (v := 1) hx hb dX3_isReal_5 (by decide) ?_
    refine lv_goto (tgt := 10) hx hb dX3_isReal_6 (by decide) ?_
    exact W.zret (v := (1 : Int32)) hx hb hr (by first | rfl | decide | assumption) (fun t ht hW => ⟨_, rfl, (by unfold m_isReal; rw [if_neg c_1]), ht⟩) (fun _ h => by cases h) dX3_isReal_10
def m_isInt (p0 : Int64) : Int32 :=
  if p0 < (-2147483648 : Int64) then (0 : Int32)
  else if (2147483647 : Int64) < p0 then (0 : Int32)
    else (1 : Int32)
set_option maxHeartbeats 4000000 in
set_option maxRecDepth 100000 in
theorem c_X3_isInt (l : Launch) (dC : Nat → ClassId) (dI : Nat → Nat → Nat) (cI cJ cZ : ClassId) (b : Nat → Nat) (kd : Nat → Int32) (vl : Nat → Int64) (lo : Nat → Int64) (hi : Nat → Int64) (nd : Int32) (so : Nat → Int32) (fr : Nat → Int32) (tg : Nat → Int32) (gn : Nat → Int32) (nr : Int32) (kp : Nat → Int64) (ah : Nat → Int64) (kx : Nat → Int32) (st : Int32) (mo : Int32) (ma : Int32) (fa : Int32) (op : Nat → Int32) (nx : Nat → Int32) (p0 : Int64) : Met l yX3_isInt wsX3_isInt ({ frames := 0, cells := 0, slots := 0, locals := 0 }) (va_Pc [.ref (b 0), .long p0] (fun U => va_P (dC, dI) vwCl (wM cI cJ cZ b kd vl lo hi nd so fr tg gn nr kp ah kx st mo ma fa op nx) U.heap ∧ va_K (dC, dI) vwCl (tA cI cJ cZ) U)) (vp_Si (fun r => r = m_isInt p0)) 0 0 (fun _ => False) := by
  refine Met.ofW (cc := cX3_isInt) (maxL := 3) (ret := (some .boolean)) (by decide) rfl ?_
  intro p e s m args below meth c s₁ B hml hv
  obtain ⟨rfl, hP, hK⟩ := hv
  have hx := B.exec
  have hb := B.bytes
  have hr := B.returns
  have hts := atoms_spec (ws := wsX3_isInt) B.pre
  have hown : s.vm.findClass RX3 = some m.cls := findClass_of_methodNamed B.named
  have hlocks := B.notSynchronized
  have k_0 := hts (.constantLong RX3 58 (-2147483648)) (by decide +kernel)
  have k_1 := hts (.constantLong RX3 60 (2147483647)) (by decide +kernel)
  have hl := lv_entry ([.ref (b 0), .long p0]) (n := 3) (Nat.le_of_ble_eq_true rfl)
  rw [lg_entry_eq]
  generalize (lg_sl ([.ref (b 0), .long p0]) ++ List.replicate (3 - (lg_sl ([.ref (b 0), .long p0])).length) Slot.unset).toArray = ls at hl ⊢
  have hl : lv_has ls 3 [(0, .ref (b 0)), (1, .long p0)] := hl
  refine lv_lload_n hx hb dX3_isInt_0 rfl (lv_at hl 1 rfl) ?_
  refine lv_ldc2 hx hb hown k_0 dX3_isInt_1 ?_
  refine W.lcmp hx hb dX3_isInt_4 ?_
  refine lv_if_lt (tgt := 20) hx hb dX3_isInt_5 (by decide) (fun c_1 => ?_) (fun c_1 => ?_)
  · skip
    have c_1 : p0 < (-2147483648 : Int64) := (lg_cmp_lt _ _).mp c_1
    refine lv_iconst (v := 0) hx hb dX3_isInt_20 (by decide) ?_
    exact W.zret (v := (0 : Int32)) hx hb hr (by first | rfl | decide | assumption) (fun t ht hW => ⟨_, rfl, (by unfold m_isInt; rw [if_pos c_1]), ht⟩) (fun _ h => by cases h) dX3_isInt_21
  · skip
    have c_1 : ¬ (p0 < (-2147483648 : Int64)) := fun h => c_1 ((lg_cmp_lt _ _).mpr h)
    refine lv_lload_n hx hb dX3_isInt_8 rfl (lv_at hl 1 rfl) ?_
    refine lv_ldc2 hx hb hown k_1 dX3_isInt_9 ?_
    refine W.lcmp hx hb dX3_isInt_12 ?_
    refine lv_if_gt (tgt := 20) hx hb dX3_isInt_13 (by decide) (fun c_2 => ?_) (fun c_2 => ?_)
    · skip
      have c_2 : (2147483647 : Int64) < p0 := (lg_cmp_gt _ _).mp c_2
      refine lv_iconst (v := 0) hx hb dX3_isInt_20 (by decide) ?_
      exact W.zret (v := (0 : Int32)) hx hb hr (by first | rfl | decide | assumption) (fun t ht hW => ⟨_, rfl, (by unfold m_isInt; rw [if_neg c_1, if_pos c_2]), ht⟩) (fun _ h => by cases h) dX3_isInt_21
    · skip
      have c_2 : ¬ ((2147483647 : Int64) < p0) := fun h => c_2 ((lg_cmp_gt _ _).mpr h)
      refine lv_iconst (v := 1) hx hb dX3_isInt_16 (by decide) ?_
      refine lv_goto (tgt := 21) hx hb dX3_isInt_17 (by decide) ?_
      exact W.zret (v := (1 : Int32)) hx hb hr (by first | rfl | decide | assumption) (fun t ht hW => ⟨_, rfl, (by unfold m_isInt; rw [if_neg c_1, if_neg c_2]), ht⟩) (fun _ h => by cases h) dX3_isInt_21
def m_isNumber (p0 : Int32) (p1 : Int64) : Int32 :=
  if p0 = (1 : Int32) then (1 : Int32)
  else if p0 = (3 : Int32) then (if (9218868437227405312 : Int64) < (p1 &&& (9223372036854775807 : Int64)) then (0 : Int32)
      else (1 : Int32))
    else if (m_isInt p1) = 0 then (0 : Int32)
      else if p0 = 0 then (1 : Int32)
        else if (2139095040 : Int64) < (p1 &&& (2147483647 : Int64)) then (0 : Int32)
          else (1 : Int32)
set_option maxHeartbeats 4000000 in
set_option maxRecDepth 100000 in
theorem c_X3_isNumber (l : Launch) (dC : Nat → ClassId) (dI : Nat → Nat → Nat) (cI cJ cZ : ClassId) (b : Nat → Nat) (kd : Nat → Int32) (vl : Nat → Int64) (lo : Nat → Int64) (hi : Nat → Int64) (nd : Int32) (so : Nat → Int32) (fr : Nat → Int32) (tg : Nat → Int32) (gn : Nat → Int32) (nr : Int32) (kp : Nat → Int64) (ah : Nat → Int64) (kx : Nat → Int32) (st : Int32) (mo : Int32) (ma : Int32) (fa : Int32) (op : Nat → Int32) (nx : Nat → Int32) (p0 : Int32) (p1 : Int64) : Met l yX3_isNumber wsX3_isNumber ({ frames := 1, cells := 0, slots := 0, locals := 22 }) (va_Pc [.ref (b 0), .int p0, .long p1] (fun U => va_P (dC, dI) vwCl (wM cI cJ cZ b kd vl lo hi nd so fr tg gn nr kp ah kx st mo ma fa op nx) U.heap ∧ va_K (dC, dI) vwCl (tA cI cJ cZ) U)) (vp_Si (fun r => r = m_isNumber p0 p1)) 0 0 (fun _ => False) := by
  refine Met.ofW (cc := cX3_isNumber) (maxL := 4) (ret := (some .boolean)) (by decide) rfl ?_
  intro p e s m args below meth c s₁ B hml hv
  obtain ⟨rfl, hP, hK⟩ := hv
  have hx := B.exec
  have hb := B.bytes
  have hr := B.returns
  have hts := atoms_spec (ws := wsX3_isNumber) B.pre
  have hown : s.vm.findClass RX3 = some m.cls := findClass_of_methodNamed B.named
  have hlocks := B.notSynchronized
  have k_0 := hts (.constantLong RX3 60 (2147483647)) (by decide +kernel)
  have k_1 := hts (.constantLong RX3 70 (2139095040)) (by decide +kernel)
  have k_2 := hts (.constantLong RX3 62 (9223372036854775807)) (by decide +kernel)
  have k_3 := hts (.constantLong RX3 64 (9218868437227405312)) (by decide +kernel)
  have hl := lv_entry ([.ref (b 0), .int p0, .long p1]) (n := 4) (Nat.le_of_ble_eq_true rfl)
  rw [lg_entry_eq]
  generalize (lg_sl ([.ref (b 0), .int p0, .long p1]) ++ List.replicate (4 - (lg_sl ([.ref (b 0), .int p0, .long p1])).length) Slot.unset).toArray = ls at hl ⊢
  have hl : lv_has ls 4 [(0, .ref (b 0)), (1, .int p0), (2, .long p1)] := hl
  refine lv_iload_n hx hb dX3_isNumber_0 rfl (lv_at hl 1 rfl) ?_
  refine lv_iconst (v := 1) hx hb dX3_isNumber_1 (by decide) ?_
  refine lv_icmp_ne (tgt := 7) hx hb dX3_isNumber_2 (by decide) (fun c_1 => ?_) (fun c_1 => ?_)
  · skip
    refine lv_iload_n hx hb dX3_isNumber_7 rfl (lv_at hl 1 rfl) ?_
    refine lv_iconst (v := 3) hx hb dX3_isNumber_8 (by decide) ?_
    refine lv_icmp_ne (tgt := 30) hx hb dX3_isNumber_9 (by decide) (fun c_2 => ?_) (fun c_2 => ?_)
    · skip
      refine lv_aload_n hx hb dX3_isNumber_30 rfl (lv_at hl 0 rfl) ?_
      refine lv_lload_n hx hb dX3_isNumber_31 rfl (lv_at hl 2 rfl) ?_
      refine cs_i (W.runV (As := [.long p1]) (rest := []) ⟨hx, hb, hml, hown, hts⟩ (c_X3_isInt l dC dI cI cJ cZ b kd vl lo hi nd so fr tg gn nr kp ah kx st mo ma fa op nx p1 ) (cwV 1 hts gX3_isNumber_X3_isInt rfl rfl rfl (by decide +kernel) ⟨Nat.le_of_ble_eq_true rfl, Nat.le_of_ble_eq_true rfl⟩) (fb_v hK hP (va_recv hK hP (ci := 2) (q0 := 0) rfl rfl)) rfl rfl hl.1 rfl (lv_room (Nat.le_of_ble_eq_true rfl)) dX3_isNumber_32 ⟨Nat.zero_le _, Nat.zero_le _⟩) ?_
      refine lv_if_eq (tgt := 58) hx hb dX3_isNumber_35 (by decide) (fun c_3 => ?_) (fun c_3 => ?_)
      · skip
        refine lv_iconst (v := 0) hx hb dX3_isNumber_58 (by decide) ?_
        exact W.zret (v := (0 : Int32)) hx hb hr (by first | rfl | decide | assumption) (fun t ht hW => ⟨_, rfl, (by unfold m_isNumber; rw [if_neg c_1, if_neg c_2, if_pos c_3]), ht⟩) (fun _ h => by cases h) dX3_isNumber_59
      · skip
        refine lv_iload_n hx hb dX3_isNumber_38 rfl (lv_at hl 1 rfl) ?_
        refine lv_if_eq (tgt := 54) hx hb dX3_isNumber_39 (by decide) (fun c_4 => ?_) (fun c_4 => ?_)
        · skip
          refine lv_iconst (v := 1) hx hb dX3_isNumber_54 (by decide) ?_
          refine lv_goto (tgt := 59) hx hb dX3_isNumber_55 (by decide) ?_
          exact W.zret (v := (1 : Int32)) hx hb hr (by first | rfl | decide | assumption) (fun t ht hW => ⟨_, rfl, (by unfold m_isNumber; rw [if_neg c_1, if_neg c_2, if_neg c_3, if_pos c_4]), ht⟩) (fun _ h => by cases h) dX3_isNumber_59
        · skip
          refine lv_lload_n hx hb dX3_isNumber_42 rfl (lv_at hl 2 rfl) ?_
          refine lv_ldc2 hx hb hown k_0 dX3_isNumber_43 ?_
          refine lv_land hx hb dX3_isNumber_46 ?_
          refine lv_ldc2 hx hb hown k_1 dX3_isNumber_47 ?_
          refine W.lcmp hx hb dX3_isNumber_50 ?_
          refine lv_if_gt (tgt := 58) hx hb dX3_isNumber_51 (by decide) (fun c_5 => ?_) (fun c_5 => ?_)
          · skip
            have c_5 : (2139095040 : Int64) < (p1 &&& (2147483647 : Int64)) := (lg_cmp_gt _ _).mp c_5
            refine lv_iconst (v := 0) hx hb dX3_isNumber_58 (by decide) ?_
            exact W.zret (v := (0 : Int32)) hx hb hr (by first | rfl | decide | assumption) (fun t ht hW => ⟨_, rfl, (by unfold m_isNumber; rw [if_neg c_1, if_neg c_2, if_neg c_3, if_neg c_4, if_pos c_5]), ht⟩) (fun _ h => by cases h) dX3_isNumber_59
          · skip
            have c_5 : ¬ ((2139095040 : Int64) < (p1 &&& (2147483647 : Int64))) := fun h => c_5 ((lg_cmp_gt _ _).mpr h)
            refine lv_iconst (v := 1) hx hb dX3_isNumber_54 (by decide) ?_
            refine lv_goto (tgt := 59) hx hb dX3_isNumber_55 (by decide) ?_
            exact W.zret (v := (1 : Int32)) hx hb hr (by first | rfl | decide | assumption) (fun t ht hW => ⟨_, rfl, (by unfold m_isNumber; rw [if_neg c_1, if_neg c_2, if_neg c_3, if_neg c_4, if_neg c_5]), ht⟩) (fun _ h => by cases h) dX3_isNumber_59
    · skip
      refine lv_lload_n hx hb dX3_isNumber_12 rfl (lv_at hl 2 rfl) ?_
      refine lv_ldc2 hx hb hown k_2 dX3_isNumber_13 ?_
      refine lv_land hx hb dX3_isNumber_16 ?_
      refine lv_ldc2 hx hb hown k_3 dX3_isNumber_17 ?_
      refine W.lcmp hx hb dX3_isNumber_20 ?_
      refine lv_if_gt (tgt := 28) hx hb dX3_isNumber_21 (by decide) (fun c_6 => ?_) (fun c_6 => ?_)
      · skip
        have c_6 : (9218868437227405312 : Int64) < (p1 &&& (9223372036854775807 : Int64)) := (lg_cmp_gt _ _).mp c_6
        refine lv_iconst (v := 0) hx hb dX3_isNumber_28 (by decide) ?_
        exact W.zret (v := (0 : Int32)) hx hb hr (by first | rfl | decide | assumption) (fun t ht hW => ⟨_, rfl, (by unfold m_isNumber; rw [if_neg c_1, if_pos c_2, if_pos c_6]), ht⟩) (fun _ h => by cases h) dX3_isNumber_29
      · skip
        have c_6 : ¬ ((9218868437227405312 : Int64) < (p1 &&& (9223372036854775807 : Int64))) := fun h => c_6 ((lg_cmp_gt _ _).mpr h)
        refine lv_iconst (v := 1) hx hb dX3_isNumber_24 (by decide) ?_
        refine lv_goto (tgt := 29) hx hb dX3_isNumber_25 (by decide) ?_
        exact W.zret (v := (1 : Int32)) hx hb hr (by first | rfl | decide | assumption) (fun t ht hW => ⟨_, rfl, (by unfold m_isNumber; rw [if_neg c_1, if_pos c_2, if_neg c_6]), ht⟩) (fun _ h => by cases h) dX3_isNumber_29
  · skip
    refine lv_iconst (v := 1) hx hb dX3_isNumber_5 (by decide) ?_
    exact W.zret (v := (1 : Int32)) hx hb hr (by first | rfl | decide | assumption) (fun t ht hW => ⟨_, rfl, (by unfold m_isNumber; rw [if_pos c_1]), ht⟩) (fun _ h => by cases h) dX3_isNumber_6
def m_rank (p0 : Int32) (p1 : Int64) : Int64 :=
  if (m_isReal p0) = 0 then p1
  else if p1 < (0 : Int64) then (if p0 = (2 : Int32) then (p1 ^^^ (2147483647 : Int64))
      else (p1 ^^^ (9223372036854775807 : Int64)))
    else p1
set_option maxHeartbeats 4000000 in
set_option maxRecDepth 100000 in
theorem c_X3_rank (l : Launch) (dC : Nat → ClassId) (dI : Nat → Nat → Nat) (cI cJ cZ : ClassId) (b : Nat → Nat) (kd : Nat → Int32) (vl : Nat → Int64) (lo : Nat → Int64) (hi : Nat → Int64) (nd : Int32) (so : Nat → Int32) (fr : Nat → Int32) (tg : Nat → Int32) (gn : Nat → Int32) (nr : Int32) (kp : Nat → Int64) (ah : Nat → Int64) (kx : Nat → Int32) (st : Int32) (mo : Int32) (ma : Int32) (fa : Int32) (op : Nat → Int32) (nx : Nat → Int32) (p0 : Int32) (p1 : Int64) : Met l yX3_rank wsX3_rank ({ frames := 1, cells := 0, slots := 0, locals := 21 }) (va_Pc [.ref (b 0), .int p0, .long p1] (fun U => va_P (dC, dI) vwCl (wM cI cJ cZ b kd vl lo hi nd so fr tg gn nr kp ah kx st mo ma fa op nx) U.heap ∧ va_K (dC, dI) vwCl (tA cI cJ cZ) U)) (vp_Sl (fun r => r = m_rank p0 p1)) 0 0 (fun _ => False) := by
  refine Met.ofW (cc := cX3_rank) (maxL := 4) (ret := (some .long)) (by decide) rfl ?_
  intro p e s m args below meth c s₁ B hml hv
  obtain ⟨rfl, hP, hK⟩ := hv
  have hx := B.exec
  have hb := B.bytes
  have hr := B.returns
  have hts := atoms_spec (ws := wsX3_rank) B.pre
  have hown : s.vm.findClass RX3 = some m.cls := findClass_of_methodNamed B.named
  have hlocks := B.notSynchronized
  have k_0 := hts (.constantLong RX3 62 (9223372036854775807)) (by decide +kernel)
  have k_1 := hts (.constantLong RX3 60 (2147483647)) (by decide +kernel)
  have hl := lv_entry ([.ref (b 0), .int p0, .long p1]) (n := 4) (Nat.le_of_ble_eq_true rfl)
  rw [lg_entry_eq]
  generalize (lg_sl ([.ref (b 0), .int p0, .long p1]) ++ List.replicate (4 - (lg_sl ([.ref (b 0), .int p0, .long p1])).length) Slot.unset).toArray = ls at hl ⊢
  have hl : lv_has ls 4 [(0, .ref (b 0)), (1, .int p0), (2, .long p1)] := hl
  refine lv_aload_n hx hb dX3_rank_0 rfl (lv_at hl 0 rfl) ?_
  refine lv_iload_n hx hb dX3_rank_1 rfl (lv_at hl 1 rfl) ?_
  refine cs_i (W.runV (As := [.int p0]) (rest := []) ⟨hx, hb, hml, hown, hts⟩ (c_X3_isReal l dC dI cI cJ cZ b kd vl lo hi nd so fr tg gn nr kp ah kx st mo ma fa op nx p0 ) (cwV 1 hts gX3_rank_X3_isReal rfl rfl rfl (by decide +kernel) ⟨Nat.le_of_ble_eq_true rfl, Nat.le_of_ble_eq_true rfl⟩) (fb_v hK hP (va_recv hK hP (ci := 2) (q0 := 0) rfl rfl)) rfl rfl hl.1 rfl (lv_room (Nat.le_of_ble_eq_true rfl)) dX3_rank_2 ⟨Nat.zero_le _, Nat.zero_le _⟩) ?_
  refine lv_if_eq (tgt := 14) hx hb dX3_rank_5 (by decide) (fun c_1 => ?_) (fun c_1 => ?_)
  · skip
    refine lv_lload_n hx hb dX3_rank_14 rfl (lv_at hl 2 rfl) ?_
    exact W.lret (v := p1) hx hb hr (fun t ht hW => ⟨_, rfl, (by unfold m_rank; rw [if_pos c_1]), ht⟩) (fun _ h => by cases h) dX3_rank_15
  · skip
    refine lv_lload_n hx hb dX3_rank_8 rfl (lv_at hl 2 rfl) ?_
    refine lv_lconst (v := 0) hx hb dX3_rank_9 (by decide) ?_
    refine W.lcmp hx hb dX3_rank_10 ?_
    refine lv_if_lt (tgt := 16) hx hb dX3_rank_11 (by decide) (fun c_2 => ?_) (fun c_2 => ?_)
    · skip
      have c_2 : p1 < (0 : Int64) := (lg_cmp_lt _ _).mp c_2
      refine lv_iload_n hx hb dX3_rank_16 rfl (lv_at hl 1 rfl) ?_
      refine lv_iconst (v := 2) hx hb dX3_rank_17 (by decide) ?_
      refine lv_icmp_ne (tgt := 29) hx hb dX3_rank_18 (by decide) (fun c_3 => ?_) (fun c_3 => ?_)
      · skip
        refine lv_lload_n hx hb dX3_rank_29 rfl (lv_at hl 2 rfl) ?_
        refine lv_ldc2 hx hb hown k_0 dX3_rank_30 ?_
        refine lv_lxor hx hb dX3_rank_33 ?_
        exact W.lret (v := (p1 ^^^ (9223372036854775807 : Int64))) hx hb hr (fun t ht hW => ⟨_, rfl, (by unfold m_rank; rw [if_neg c_1, if_pos c_2, if_neg c_3]), ht⟩) (fun _ h => by cases h) dX3_rank_34
      · skip
        refine lv_lload_n hx hb dX3_rank_21 rfl (lv_at hl 2 rfl) ?_
        refine lv_ldc2 hx hb hown k_1 dX3_rank_22 ?_
        refine lv_lxor hx hb dX3_rank_25 ?_
        refine lv_goto (tgt := 34) hx hb dX3_rank_26 (by decide) ?_
        exact W.lret (v := (p1 ^^^ (2147483647 : Int64))) hx hb hr (fun t ht hW => ⟨_, rfl, (by unfold m_rank; rw [if_neg c_1, if_pos c_2, if_pos c_3]), ht⟩) (fun _ h => by cases h) dX3_rank_34
    · skip
      have c_2 : ¬ (p1 < (0 : Int64)) := fun h => c_2 ((lg_cmp_lt _ _).mpr h)
      refine lv_lload_n hx hb dX3_rank_14 rfl (lv_at hl 2 rfl) ?_
      exact W.lret (v := p1) hx hb hr (fun t ht hW => ⟨_, rfl, (by unfold m_rank; rw [if_neg c_1, if_neg c_2]), ht⟩) (fun _ h => by cases h) dX3_rank_15
def m_isAbove (p0 : Int32) (p1 : Int64) (p2 : Int64) : Int32 :=
  if (m_rank p0 p1) ≤ (m_rank p0 p2) then (0 : Int32)
  else (1 : Int32)
set_option maxHeartbeats 4000000 in
set_option maxRecDepth 100000 in
theorem c_X3_isAbove (l : Launch) (dC : Nat → ClassId) (dI : Nat → Nat → Nat) (cI cJ cZ : ClassId) (b : Nat → Nat) (kd : Nat → Int32) (vl : Nat → Int64) (lo : Nat → Int64) (hi : Nat → Int64) (nd : Int32) (so : Nat → Int32) (fr : Nat → Int32) (tg : Nat → Int32) (gn : Nat → Int32) (nr : Int32) (kp : Nat → Int64) (ah : Nat → Int64) (kx : Nat → Int32) (st : Int32) (mo : Int32) (ma : Int32) (fa : Int32) (op : Nat → Int32) (nx : Nat → Int32) (p0 : Int32) (p1 : Int64) (p2 : Int64) : Met l yX3_isAbove wsX3_isAbove ({ frames := 2, cells := 0, slots := 0, locals := 44 }) (va_Pc [.ref (b 0), .int p0, .long p1, .long p2] (fun U => va_P (dC, dI) vwCl (wM cI cJ cZ b kd vl lo hi nd so fr tg gn nr kp ah kx st mo ma fa op nx) U.heap ∧ va_K (dC, dI) vwCl (tA cI cJ cZ) U)) (vp_Si (fun r => r = m_isAbove p0 p1 p2)) 0 0 (fun _ => False) := by
  refine Met.ofW (cc := cX3_isAbove) (maxL := 6) (ret := (some .boolean)) (by decide) rfl ?_
  intro p e s m args below meth c s₁ B hml hv
  obtain ⟨rfl, hP, hK⟩ := hv
  have hx := B.exec
  have hb := B.bytes
  have hr := B.returns
  have hts := atoms_spec (ws := wsX3_isAbove) B.pre
  have hown : s.vm.findClass RX3 = some m.cls := findClass_of_methodNamed B.named
  have hlocks := B.notSynchronized
  have hl := lv_entry ([.ref (b 0), .int p0, .long p1, .long p2]) (n := 6) (Nat.le_of_ble_eq_true rfl)
  rw [lg_entry_eq]
  generalize (lg_sl ([.ref (b 0), .int p0, .long p1, .long p2]) ++ List.replicate (6 - (lg_sl ([.ref (b 0), .int p0, .long p1, .long p2])).length) Slot.unset).toArray = ls at hl ⊢
  have hl : lv_has ls 6 [(0, .ref (b 0)), (1, .int p0), (2, .long p1), (4, .long p2)] := hl
  refine lv_aload_n hx hb dX3_isAbove_0 rfl (lv_at hl 0 rfl) ?_
  refine lv_iload_n hx hb dX3_isAbove_1 rfl (lv_at hl 1 rfl) ?_
  refine lv_lload_n hx hb dX3_isAbove_2 rfl (lv_at hl 2 rfl) ?_
  refine cs_l (W.runV (As := [.int p0, .long p1]) (rest := []) ⟨hx, hb, hml, hown, hts⟩ (c_X3_rank l dC dI cI cJ cZ b kd vl lo hi nd so fr tg gn nr kp ah kx st mo ma fa op nx p0 p1 ) (cwV 2 hts gX3_isAbove_X3_rank rfl rfl rfl (by decide +kernel) ⟨Nat.le_of_ble_eq_true rfl, Nat.le_of_ble_eq_true rfl⟩) (fb_v hK hP (va_recv hK hP (ci := 2) (q0 := 0) rfl rfl)) rfl rfl hl.1 rfl (lv_room (Nat.le_of_ble_eq_true rfl)) dX3_isAbove_3 ⟨Nat.zero_le _, Nat.zero_le _⟩) ?_
  refine lv_aload_n hx hb dX3_isAbove_6 rfl (lv_at hl 0 rfl) ?_
  refine lv_iload_n hx hb dX3_isAbove_7 rfl (lv_at hl 1 rfl) ?_
  refine lv_lload hx hb dX3_isAbove_8 (lv_at hl 3 rfl) ?_
  refine cs_l (W.runV (As := [.int p0, .long p2]) (rest := [.long (m_rank p0 p1)]) ⟨hx, hb, hml, hown, hts⟩ (c_X3_rank l dC dI cI cJ cZ b kd vl lo hi nd so fr tg gn nr kp ah kx st mo ma fa op nx p0 p2 ) (cwV 2 hts gX3_isAbove_X3_rank rfl rfl rfl (by decide +kernel) ⟨Nat.le_of_ble_eq_true rfl, Nat.le_of_ble_eq_true rfl⟩) (fb_v hK hP (va_recv hK hP (ci := 2) (q0 := 0) rfl rfl)) rfl rfl hl.1 rfl (lv_room (Nat.le_of_ble_eq_true rfl)) dX3_isAbove_10 ⟨Nat.zero_le _, Nat.zero_le _⟩) ?_
  refine W.lcmp hx hb dX3_isAbove_13 ?_
  refine lv_if_le (tgt := 21) hx hb dX3_isAbove_14 (by decide) (fun c_1 => ?_) (fun c_1 => ?_)
  · skip
    have c_1 : (m_rank p0 p1) ≤ (m_rank p0 p2) := (lg_cmp_le _ _).mp c_1
    refine lv_iconst (v := 0) hx hb dX3_isAbove_21 (by decide) ?_
    exact W.zret (v := (0 : Int32)) hx hb hr (by first | rfl | decide | assumption) (fun t ht hW => ⟨_, rfl, (by unfold m_isAbove; rw [if_pos c_1]), ht⟩) (fun _ h => by cases h) dX3_isAbove_22
  · skip
    have c_1 : ¬ ((m_rank p0 p1) ≤ (m_rank p0 p2)) := fun h => c_1 ((lg_cmp_le _ _).mpr h)
    refine lv_iconst (v := 1) hx hb dX3_isAbove_17 (by decide) ?_
    refine lv_goto (tgt := 22) hx hb dX3_isAbove_18 (by decide) ?_
    exact W.zret (v := (1 : Int32)) hx hb hr (by first | rfl | decide | assumption) (fun t ht hW => ⟨_, rfl, (by unfold m_isAbove; rw [if_neg c_1]), ht⟩) (fun _ h => by cases h) dX3_isAbove_22
def m_greater (p0 : Int32) (p1 : Int64) (p2 : Int64) : Int64 :=
  if (m_isAbove p0 p2 p1) = 0 then p1
  else p2
set_option maxHeartbeats 4000000 in
set_option maxRecDepth 100000 in
theorem c_X3_greater (l : Launch) (dC : Nat → ClassId) (dI : Nat → Nat → Nat) (cI cJ cZ : ClassId) (b : Nat → Nat) (kd : Nat → Int32) (vl : Nat → Int64) (lo : Nat → Int64) (hi : Nat → Int64) (nd : Int32) (so : Nat → Int32) (fr : Nat → Int32) (tg : Nat → Int32) (gn : Nat → Int32) (nr : Int32) (kp : Nat → Int64) (ah : Nat → Int64) (kx : Nat → Int32) (st : Int32) (mo : Int32) (ma : Int32) (fa : Int32) (op : Nat → Int32) (nx : Nat → Int32) (p0 : Int32) (p1 : Int64) (p2 : Int64) : Met l yX3_greater wsX3_greater ({ frames := 3, cells := 0, slots := 0, locals := 69 }) (va_Pc [.ref (b 0), .int p0, .long p1, .long p2] (fun U => va_P (dC, dI) vwCl (wM cI cJ cZ b kd vl lo hi nd so fr tg gn nr kp ah kx st mo ma fa op nx) U.heap ∧ va_K (dC, dI) vwCl (tA cI cJ cZ) U)) (vp_Sl (fun r => r = m_greater p0 p1 p2)) 0 0 (fun _ => False) := by
  refine Met.ofW (cc := cX3_greater) (maxL := 6) (ret := (some .long)) (by decide) rfl ?_
  intro p e s m args below meth c s₁ B hml hv
  obtain ⟨rfl, hP, hK⟩ := hv
  have hx := B.exec
  have hb := B.bytes
  have hr := B.returns
  have hts := atoms_spec (ws := wsX3_greater) B.pre
  have hown : s.vm.findClass RX3 = some m.cls := findClass_of_methodNamed B.named
  have hlocks := B.notSynchronized
  have hl := lv_entry ([.ref (b 0), .int p0, .long p1, .long p2]) (n := 6) (Nat.le_of_ble_eq_true rfl)
  rw [lg_entry_eq]
  generalize (lg_sl ([.ref (b 0), .int p0, .long p1, .long p2]) ++ List.replicate (6 - (lg_sl ([.ref (b 0), .int p0, .long p1, .long p2])).length) Slot.unset).toArray = ls at hl ⊢
  have hl : lv_has ls 6 [(0, .ref (b 0)), (1, .int p0), (2, .long p1), (4, .long p2)] := hl
  refine lv_aload_n hx hb dX3_greater_0 rfl (lv_at hl 0 rfl) ?_
  refine lv_iload_n hx hb dX3_greater_1 rfl (lv_at hl 1 rfl) ?_
  refine lv_lload hx hb dX3_greater_2 (lv_at hl 3 rfl) ?_
  refine lv_lload_n hx hb dX3_greater_4 rfl (lv_at hl 2 rfl) ?_
  refine cs_i (W.runV (As := [.int p0, .long p2, .long p1]) (rest := []) ⟨hx, hb, hml, hown, hts⟩ (c_X3_isAbove l dC dI cI cJ cZ b kd vl lo hi nd so fr tg gn nr kp ah kx st mo ma fa op nx p0 p2 p1 ) (cwV 3 hts gX3_greater_X3_isAbove rfl rfl rfl (by decide +kernel) ⟨Nat.le_of_ble_eq_true rfl, Nat.le_of_ble_eq_true rfl⟩) (fb_v hK hP (va_recv hK hP (ci := 2) (q0 := 0) rfl rfl)) rfl rfl hl.1 rfl (lv_room (Nat.le_of_ble_eq_true rfl)) dX3_greater_5 ⟨Nat.zero_le _, Nat.zero_le _⟩) ?_
  refine lv_if_eq (tgt := 16) hx hb dX3_greater_8 (by decide) (fun c_1 => ?_) (fun c_1 => ?_)
  · skip
    refine lv_lload_n hx hb dX3_greater_16 rfl (lv_at hl 2 rfl) ?_
    exact W.lret (v := p1) hx hb hr (fun t ht hW => ⟨_, rfl, (by unfold m_greater; rw [if_pos c_1]), ht⟩) (fun _ h => by cases h) dX3_greater_17
  · skip
    refine lv_lload hx hb dX3_greater_11 (lv_at hl 3 rfl) ?_
    refine lv_goto (tgt := 17) hx hb dX3_greater_13 (by decide) ?_
    exact W.lret (v := p2) hx hb hr (fun t ht hW => ⟨_, rfl, (by unfold m_greater; rw [if_neg c_1]), ht⟩) (fun _ h => by cases h) dX3_greater_17
def m_less (p0 : Int32) (p1 : Int64) (p2 : Int64) : Int64 :=
  if (m_isAbove p0 p1 p2) = 0 then p1
  else p2
set_option maxHeartbeats 4000000 in
set_option maxRecDepth 100000 in
theorem c_X3_less (l : Launch) (dC : Nat → ClassId) (dI : Nat → Nat → Nat) (cI cJ cZ : ClassId) (b : Nat → Nat) (kd : Nat → Int32) (vl : Nat → Int64) (lo : Nat → Int64) (hi : Nat → Int64) (nd : Int32) (so : Nat → Int32) (fr : Nat → Int32) (tg : Nat → Int32) (gn : Nat → Int32) (nr : Int32) (kp : Nat → Int64) (ah : Nat → Int64) (kx : Nat → Int32) (st : Int32) (mo : Int32) (ma : Int32) (fa : Int32) (op : Nat → Int32) (nx : Nat → Int32) (p0 : Int32) (p1 : Int64) (p2 : Int64) : Met l yX3_less wsX3_less ({ frames := 3, cells := 0, slots := 0, locals := 69 }) (va_Pc [.ref (b 0), .int p0, .long p1, .long p2] (fun U => va_P (dC, dI) vwCl (wM cI cJ cZ b kd vl lo hi nd so fr tg gn nr kp ah kx st mo ma fa op nx) U.heap ∧ va_K (dC, dI) vwCl (tA cI cJ cZ) U)) (vp_Sl (fun r => r = m_less p0 p1 p2)) 0 0 (fun _ => False) := by
  refine Met.ofW (cc := cX3_less) (maxL := 6) (ret := (some .long)) (by decide) rfl ?_
  intro p e s m args below meth c s₁ B hml hv
  obtain ⟨rfl, hP, hK⟩ := hv
  have hx := B.exec
  have hb := B.bytes
  have hr := B.returns
  have hts := atoms_spec (ws := wsX3_less) B.pre
  have hown : s.vm.findClass RX3 = some m.cls := findClass_of_methodNamed B.named
  have hlocks := B.notSynchronized
  have hl := lv_entry ([.ref (b 0), .int p0, .long p1, .long p2]) (n := 6) (Nat.le_of_ble_eq_true rfl)
  rw [lg_entry_eq]
  generalize (lg_sl ([.ref (b 0), .int p0, .long p1, .long p2]) ++ List.replicate (6 - (lg_sl ([.ref (b 0), .int p0, .long p1, .long p2])).length) Slot.unset).toArray = ls at hl ⊢
  have hl : lv_has ls 6 [(0, .ref (b 0)), (1, .int p0), (2, .long p1), (4, .long p2)] := hl
  refine lv_aload_n hx hb dX3_less_0 rfl (lv_at hl 0 rfl) ?_
  refine lv_iload_n hx hb dX3_less_1 rfl (lv_at hl 1 rfl) ?_
  refine lv_lload_n hx hb dX3_less_2 rfl (lv_at hl 2 rfl) ?_
  refine lv_lload hx hb dX3_less_3 (lv_at hl 3 rfl) ?_
  refine cs_i (W.runV (As := [.int p0, .long p1, .long p2]) (rest := []) ⟨hx, hb, hml, hown, hts⟩ (c_X3_isAbove l dC dI cI cJ cZ b kd vl lo hi nd so fr tg gn nr kp ah kx st mo ma fa op nx p0 p1 p2 ) (cwV 3 hts gX3_less_X3_isAbove rfl rfl rfl (by decide +kernel) ⟨Nat.le_of_ble_eq_true rfl, Nat.le_of_ble_eq_true rfl⟩) (fb_v hK hP (va_recv hK hP (ci := 2) (q0 := 0) rfl rfl)) rfl rfl hl.1 rfl (lv_room (Nat.le_of_ble_eq_true rfl)) dX3_less_5 ⟨Nat.zero_le _, Nat.zero_le _⟩) ?_
  refine lv_if_eq (tgt := 16) hx hb dX3_less_8 (by decide) (fun c_1 => ?_) (fun c_1 => ?_)
  · skip
    refine lv_lload_n hx hb dX3_less_16 rfl (lv_at hl 2 rfl) ?_
    exact W.lret (v := p1) hx hb hr (fun t ht hW => ⟨_, rfl, (by unfold m_less; rw [if_pos c_1]), ht⟩) (fun _ h => by cases h) dX3_less_17
  · skip
    refine lv_lload hx hb dX3_less_11 (lv_at hl 3 rfl) ?_
    refine lv_goto (tgt := 17) hx hb dX3_less_13 (by decide) ?_
    exact W.lret (v := p2) hx hb hr (fun t ht hW => ⟨_, rfl, (by unfold m_less; rw [if_neg c_1]), ht⟩) (fun _ h => by cases h) dX3_less_17
def m_plain (p0 : Int32) (p1 : Int64) : Int64 :=
  if p0 = (2 : Int32) then (p1 &&& (2147483647 : Int64))
  else (p1 &&& (9223372036854775807 : Int64))
set_option maxHeartbeats 4000000 in
set_option maxRecDepth 100000 in
theorem c_X3_plain (l : Launch) (dC : Nat → ClassId) (dI : Nat → Nat → Nat) (cI cJ cZ : ClassId) (b : Nat → Nat) (kd : Nat → Int32) (vl : Nat → Int64) (lo : Nat → Int64) (hi : Nat → Int64) (nd : Int32) (so : Nat → Int32) (fr : Nat → Int32) (tg : Nat → Int32) (gn : Nat → Int32) (nr : Int32) (kp : Nat → Int64) (ah : Nat → Int64) (kx : Nat → Int32) (st : Int32) (mo : Int32) (ma : Int32) (fa : Int32) (op : Nat → Int32) (nx : Nat → Int32) (p0 : Int32) (p1 : Int64) : Met l yX3_plain wsX3_plain ({ frames := 0, cells := 0, slots := 0, locals := 0 }) (va_Pc [.ref (b 0), .int p0, .long p1] (fun U => va_P (dC, dI) vwCl (wM cI cJ cZ b kd vl lo hi nd so fr tg gn nr kp ah kx st mo ma fa op nx) U.heap ∧ va_K (dC, dI) vwCl (tA cI cJ cZ) U)) (vp_Sl (fun r => r = m_plain p0 p1)) 0 0 (fun _ => False) := by
  refine Met.ofW (cc := cX3_plain) (maxL := 4) (ret := (some .long)) (by decide) rfl ?_
  intro p e s m args below meth c s₁ B hml hv
  obtain ⟨rfl, hP, hK⟩ := hv
  have hx := B.exec
  have hb := B.bytes
  have hr := B.returns
  have hts := atoms_spec (ws := wsX3_plain) B.pre
  have hown : s.vm.findClass RX3 = some m.cls := findClass_of_methodNamed B.named
  have hlocks := B.notSynchronized
  have k_0 := hts (.constantLong RX3 62 (9223372036854775807)) (by decide +kernel)
  have k_1 := hts (.constantLong RX3 60 (2147483647)) (by decide +kernel)
  have hl := lv_entry ([.ref (b 0), .int p0, .long p1]) (n := 4) (Nat.le_of_ble_eq_true rfl)
  rw [lg_entry_eq]
  generalize (lg_sl ([.ref (b 0), .int p0, .long p1]) ++ List.replicate (4 - (lg_sl ([.ref (b 0), .int p0, .long p1])).length) Slot.unset).toArray = ls at hl ⊢
  have hl : lv_has ls 4 [(0, .ref (b 0)), (1, .int p0), (2, .long p1)] := hl
  refine lv_iload_n hx hb dX3_plain_0 rfl (lv_at hl 1 rfl) ?_
  refine lv_iconst (v := 2) hx hb dX3_plain_1 (by decide) ?_
  refine lv_icmp_ne (tgt := 13) hx hb dX3_plain_2 (by decide) (fun c_1 => ?_) (fun c_1 => ?_)
  · skip
    refine lv_lload_n hx hb dX3_plain_13 rfl (lv_at hl 2 rfl) ?_
    refine lv_ldc2 hx hb hown k_0 dX3_plain_14 ?_
    refine lv_land hx hb dX3_plain_17 ?_
    exact W.lret (v := (p1 &&& (9223372036854775807 : Int64))) hx hb hr (fun t ht hW => ⟨_, rfl, (by unfold m_plain; rw [if_neg c_1]), ht⟩) (fun _ h => by cases h) dX3_plain_18
  · skip
    refine lv_lload_n hx hb dX3_plain_5 rfl (lv_at hl 2 rfl) ?_
    refine lv_ldc2 hx hb hown k_1 dX3_plain_6 ?_
    refine lv_land hx hb dX3_plain_9 ?_
    refine lv_goto (tgt := 18) hx hb dX3_plain_10 (by decide) ?_
    exact W.lret (v := (p1 &&& (2147483647 : Int64))) hx hb hr (fun t ht hW => ⟨_, rfl, (by unfold m_plain; rw [if_pos c_1]), ht⟩) (fun _ h => by cases h) dX3_plain_18
def m_signed (p0 : Int32) (p1 : Int64) (p2 : Int64) : Int64 :=
  if p2 < (0 : Int64) then (if p0 = (2 : Int32) then (p1 - (2147483648 : Int64))
    else (p1 ||| (-9223372036854775808 : Int64)))
  else p1
set_option maxHeartbeats 4000000 in
set_option maxRecDepth 100000 in
theorem c_X3_signed (l : Launch) (dC : Nat → ClassId) (dI : Nat → Nat → Nat) (cI cJ cZ : ClassId) (b : Nat → Nat) (kd : Nat → Int32) (vl : Nat → Int64) (lo : Nat → Int64) (hi : Nat → Int64) (nd : Int32) (so : Nat → Int32) (fr : Nat → Int32) (tg : Nat → Int32) (gn : Nat → Int32) (nr : Int32) (kp : Nat → Int64) (ah : Nat → Int64) (kx : Nat → Int32) (st : Int32) (mo : Int32) (ma : Int32) (fa : Int32) (op : Nat → Int32) (nx : Nat → Int32) (p0 : Int32) (p1 : Int64) (p2 : Int64) : Met l yX3_signed wsX3_signed ({ frames := 0, cells := 0, slots := 0, locals := 0 }) (va_Pc [.ref (b 0), .int p0, .long p1, .long p2] (fun U => va_P (dC, dI) vwCl (wM cI cJ cZ b kd vl lo hi nd so fr tg gn nr kp ah kx st mo ma fa op nx) U.heap ∧ va_K (dC, dI) vwCl (tA cI cJ cZ) U)) (vp_Sl (fun r => r = m_signed p0 p1 p2)) 0 0 (fun _ => False) := by
  refine Met.ofW (cc := cX3_signed) (maxL := 6) (ret := (some .long)) (by decide) rfl ?_
  intro p e s m args below meth c s₁ B hml hv
  obtain ⟨rfl, hP, hK⟩ := hv
  have hx := B.exec
  have hb := B.bytes
  have hr := B.returns
  have hts := atoms_spec (ws := wsX3_signed) B.pre
  have hown : s.vm.findClass RX3 = some m.cls := findClass_of_methodNamed B.named
  have hlocks := B.notSynchronized
  have k_0 := hts (.constantLong RX3 86 (-9223372036854775808)) (by decide +kernel)
  have k_1 := hts (.constantLong RX3 84 (2147483648)) (by decide +kernel)
  have hl := lv_entry ([.ref (b 0), .int p0, .long p1, .long p2]) (n := 6) (Nat.le_of_ble_eq_true rfl)
  rw [lg_entry_eq]
  generalize (lg_sl ([.ref (b 0), .int p0, .long p1, .long p2]) ++ List.replicate (6 - (lg_sl ([.ref (b 0), .int p0, .long p1, .long p2])).length) Slot.unset).toArray = ls at hl ⊢
  have hl : lv_has ls 6 [(0, .ref (b 0)), (1, .int p0), (2, .long p1), (4, .long p2)] := hl
  refine lv_lload hx hb dX3_signed_0 (lv_at hl 3 rfl) ?_
  refine lv_lconst (v := 0) hx hb dX3_signed_2 (by decide) ?_
  refine W.lcmp hx hb dX3_signed_3 ?_
  refine lv_if_lt (tgt := 9) hx hb dX3_signed_4 (by decide) (fun c_1 => ?_) (fun c_1 => ?_)
  · skip
    have c_1 : p2 < (0 : Int64) := (lg_cmp_lt _ _).mp c_1
    refine lv_iload_n hx hb dX3_signed_9 rfl (lv_at hl 1 rfl) ?_
    refine lv_iconst (v := 2) hx hb dX3_signed_10 (by decide) ?_
    refine lv_icmp_ne (tgt := 22) hx hb dX3_signed_11 (by decide) (fun c_2 => ?_) (fun c_2 => ?_)
    · skip
      refine lv_lload_n hx hb dX3_signed_22 rfl (lv_at hl 2 rfl) ?_
      refine lv_ldc2 hx hb hown k_0 dX3_signed_23 ?_
      refine lv_lor hx hb dX3_signed_26 ?_
      exact W.lret (v := (p1 ||| (-9223372036854775808 : Int64))) hx hb hr (fun t ht hW => ⟨_, rfl, (by unfold m_signed; rw [if_pos c_1, if_neg c_2]), ht⟩) (fun _ h => by cases h) dX3_signed_27
    · skip
      refine lv_lload_n hx hb dX3_signed_14 rfl (lv_at hl 2 rfl) ?_
      refine lv_ldc2 hx hb hown k_1 dX3_signed_15 ?_
      refine lv_lsub hx hb dX3_signed_18 ?_
      refine lv_goto (tgt := 27) hx hb dX3_signed_19 (by decide) ?_
      exact W.lret (v := (p1 - (2147483648 : Int64))) hx hb hr (fun t ht hW => ⟨_, rfl, (by unfold m_signed; rw [if_pos c_1, if_pos c_2]), ht⟩) (fun _ h => by cases h) dX3_signed_27
  · skip
    have c_1 : ¬ (p2 < (0 : Int64)) := fun h => c_1 ((lg_cmp_lt _ _).mpr h)
    refine lv_lload_n hx hb dX3_signed_7 rfl (lv_at hl 2 rfl) ?_
    exact W.lret (v := p1) hx hb hr (fun t ht hW => ⟨_, rfl, (by unfold m_signed; rw [if_neg c_1]), ht⟩) (fun _ h => by cases h) dX3_signed_8
def m_sizeOf (p0 : Int32) (p1 : Int64) : Int64 :=
  if (m_isReal p0) = 0 then (if (0 : Int64) ≤ p1 then p1
    else if p0 = 0 then (if p1 = (-2147483648 : Int64) then p1
        else if p1 = (-9223372036854775808 : Int64) then p1
          else (-p1))
      else if p1 = (-9223372036854775808 : Int64) then p1
        else (-p1))
  else (m_plain p0 p1)
set_option maxHeartbeats 4000000 in
set_option maxRecDepth 100000 in
theorem c_X3_sizeOf (l : Launch) (dC : Nat → ClassId) (dI : Nat → Nat → Nat) (cI cJ cZ : ClassId) (b : Nat → Nat) (kd : Nat → Int32) (vl : Nat → Int64) (lo : Nat → Int64) (hi : Nat → Int64) (nd : Int32) (so : Nat → Int32) (fr : Nat → Int32) (tg : Nat → Int32) (gn : Nat → Int32) (nr : Int32) (kp : Nat → Int64) (ah : Nat → Int64) (kx : Nat → Int32) (st : Int32) (mo : Int32) (ma : Int32) (fa : Int32) (op : Nat → Int32) (nx : Nat → Int32) (p0 : Int32) (p1 : Int64) : Met l yX3_sizeOf wsX3_sizeOf ({ frames := 1, cells := 0, slots := 0, locals := 23 }) (va_Pc [.ref (b 0), .int p0, .long p1] (fun U => va_P (dC, dI) vwCl (wM cI cJ cZ b kd vl lo hi nd so fr tg gn nr kp ah kx st mo ma fa op nx) U.heap ∧ va_K (dC, dI) vwCl (tA cI cJ cZ) U)) (vp_Sl (fun r => r = m_sizeOf p0 p1)) 0 0 (fun _ => False) := by
  refine Met.ofW (cc := cX3_sizeOf) (maxL := 4) (ret := (some .long)) (by decide) rfl ?_
  intro p e s m args below meth c s₁ B hml hv
  obtain ⟨rfl, hP, hK⟩ := hv
  have hx := B.exec
  have hb := B.bytes
  have hr := B.returns
  have hts := atoms_spec (ws := wsX3_sizeOf) B.pre
  have hown : s.vm.findClass RX3 = some m.cls := findClass_of_methodNamed B.named
  have hlocks := B.notSynchronized
  have k_0 := hts (.constantLong RX3 86 (-9223372036854775808)) (by decide +kernel)
  have k_1 := hts (.constantLong RX3 58 (-2147483648)) (by decide +kernel)
  have hl := lv_entry ([.ref (b 0), .int p0, .long p1]) (n := 4) (Nat.le_of_ble_eq_true rfl)
  rw [lg_entry_eq]
  generalize (lg_sl ([.ref (b 0), .int p0, .long p1]) ++ List.replicate (4 - (lg_sl ([.ref (b 0), .int p0, .long p1])).length) Slot.unset).toArray = ls at hl ⊢
  have hl : lv_has ls 4 [(0, .ref (b 0)), (1, .int p0), (2, .long p1)] := hl
  refine lv_aload_n hx hb dX3_sizeOf_0 rfl (lv_at hl 0 rfl) ?_
  refine lv_iload_n hx hb dX3_sizeOf_1 rfl (lv_at hl 1 rfl) ?_
  refine cs_i (W.runV (As := [.int p0]) (rest := []) ⟨hx, hb, hml, hown, hts⟩ (c_X3_isReal l dC dI cI cJ cZ b kd vl lo hi nd so fr tg gn nr kp ah kx st mo ma fa op nx p0 ) (cwV 1 hts gX3_sizeOf_X3_isReal rfl rfl rfl (by decide +kernel) ⟨Nat.le_of_ble_eq_true rfl, Nat.le_of_ble_eq_true rfl⟩) (fb_v hK hP (va_recv hK hP (ci := 2) (q0 := 0) rfl rfl)) rfl rfl hl.1 rfl (lv_room (Nat.le_of_ble_eq_true rfl)) dX3_sizeOf_2 ⟨Nat.zero_le _, Nat.zero_le _⟩) ?_
  refine lv_if_eq (tgt := 15) hx hb dX3_sizeOf_5 (by decide) (fun c_1 => ?_) (fun c_1 => ?_)
  · skip
    refine lv_lload_n hx hb dX3_sizeOf_15 rfl (lv_at hl 2 rfl) ?_
    refine lv_lconst (v := 0) hx hb dX3_sizeOf_16 (by decide) ?_
    refine W.lcmp hx hb dX3_sizeOf_17 ?_
    refine lv_if_ge (tgt := 41) hx hb dX3_sizeOf_18 (by decide) (fun c_2 => ?_) (fun c_2 => ?_)
    · skip
      have c_2 : (0 : Int64) ≤ p1 := (lg_cmp_ge _ _).mp c_2
      refine lv_lload_n hx hb dX3_sizeOf_41 rfl (lv_at hl 2 rfl) ?_
      exact W.lret (v := p1) hx hb hr (fun t ht hW => ⟨_, rfl, (by unfold m_sizeOf; rw [if_pos c_1, if_pos c_2]), ht⟩) (fun _ h => by cases h) dX3_sizeOf_42
    · skip
      have c_2 : ¬ ((0 : Int64) ≤ p1) := fun h => c_2 ((lg_cmp_ge _ _).mpr h)
      refine lv_iload_n hx hb dX3_sizeOf_21 rfl (lv_at hl 1 rfl) ?_
      refine lv_if_ne (tgt := 33) hx hb dX3_sizeOf_22 (by decide) (fun c_3 => ?_) (fun c_3 => ?_)
      · skip
        refine lv_lload_n hx hb dX3_sizeOf_33 rfl (lv_at hl 2 rfl) ?_
        refine lv_ldc2 hx hb hown k_0 dX3_sizeOf_34 ?_
        refine W.lcmp hx hb dX3_sizeOf_37 ?_
        refine lv_if_ne (tgt := 43) hx hb dX3_sizeOf_38 (by decide) (fun c_4 => ?_) (fun c_4 => ?_)
        · skip
          have c_4 : ¬ (p1 = (-9223372036854775808 : Int64)) := fun h => c_4 ((lg_cmp_eq _ _).mpr h)
          refine lv_lload_n hx hb dX3_sizeOf_43 rfl (lv_at hl 2 rfl) ?_
          refine lv_lneg hx hb dX3_sizeOf_44 ?_
          exact W.lret (v := (-p1)) hx hb hr (fun t ht hW => ⟨_, rfl, (by unfold m_sizeOf; rw [if_pos c_1, if_neg c_2, if_neg c_3, if_neg c_4]), ht⟩) (fun _ h => by cases h) dX3_sizeOf_45
        · skip
          have c_4 : p1 = (-9223372036854775808 : Int64) := (lg_cmp_eq _ _).mp c_4
          refine lv_lload_n hx hb dX3_sizeOf_41 rfl (lv_at hl 2 rfl) ?_
          exact W.lret (v := p1) hx hb hr (fun t ht hW => ⟨_, rfl, (by unfold m_sizeOf; rw [if_pos c_1, if_neg c_2, if_neg c_3, if_pos c_4]), ht⟩) (fun _ h => by cases h) dX3_sizeOf_42
      · skip
        refine lv_lload_n hx hb dX3_sizeOf_25 rfl (lv_at hl 2 rfl) ?_
        refine lv_ldc2 hx hb hown k_1 dX3_sizeOf_26 ?_
        refine W.lcmp hx hb dX3_sizeOf_29 ?_
        refine lv_if_eq (tgt := 41) hx hb dX3_sizeOf_30 (by decide) (fun c_5 => ?_) (fun c_5 => ?_)
        · skip
          have c_5 : p1 = (-2147483648 : Int64) := (lg_cmp_eq _ _).mp c_5
          refine lv_lload_n hx hb dX3_sizeOf_41 rfl (lv_at hl 2 rfl) ?_
          exact W.lret (v := p1) hx hb hr (fun t ht hW => ⟨_, rfl, (by unfold m_sizeOf; rw [if_pos c_1, if_neg c_2, if_pos c_3, if_pos c_5]), ht⟩) (fun _ h => by cases h) dX3_sizeOf_42
        · skip
          have c_5 : ¬ (p1 = (-2147483648 : Int64)) := fun h => c_5 ((lg_cmp_eq _ _).mpr h)
          refine lv_lload_n hx hb dX3_sizeOf_33 rfl (lv_at hl 2 rfl) ?_
          refine lv_ldc2 hx hb hown k_0 dX3_sizeOf_34 ?_
          refine W.lcmp hx hb dX3_sizeOf_37 ?_
          refine lv_if_ne (tgt := 43) hx hb dX3_sizeOf_38 (by decide) (fun c_6 => ?_) (fun c_6 => ?_)
          · skip
            have c_6 : ¬ (p1 = (-9223372036854775808 : Int64)) := fun h => c_6 ((lg_cmp_eq _ _).mpr h)
            refine lv_lload_n hx hb dX3_sizeOf_43 rfl (lv_at hl 2 rfl) ?_
            refine lv_lneg hx hb dX3_sizeOf_44 ?_
            exact W.lret (v := (-p1)) hx hb hr (fun t ht hW => ⟨_, rfl, (by unfold m_sizeOf; rw [if_pos c_1, if_neg c_2, if_pos c_3, if_neg c_5, if_neg c_6]), ht⟩) (fun _ h => by cases h) dX3_sizeOf_45
          · skip
            have c_6 : p1 = (-9223372036854775808 : Int64) := (lg_cmp_eq _ _).mp c_6
            refine lv_lload_n hx hb dX3_sizeOf_41 rfl (lv_at hl 2 rfl) ?_
            exact W.lret (v := p1) hx hb hr (fun t ht hW => ⟨_, rfl, (by unfold m_sizeOf; rw [if_pos c_1, if_neg c_2, if_pos c_3, if_neg c_5, if_pos c_6]), ht⟩) (fun _ h => by cases h) dX3_sizeOf_42
  · skip
    refine lv_aload_n hx hb dX3_sizeOf_8 rfl (lv_at hl 0 rfl) ?_
    refine lv_iload_n hx hb dX3_sizeOf_9 rfl (lv_at hl 1 rfl) ?_
    refine lv_lload_n hx hb dX3_sizeOf_10 rfl (lv_at hl 2 rfl) ?_
    refine cs_l (W.runV (As := [.int p0, .long p1]) (rest := []) ⟨hx, hb, hml, hown, hts⟩ (c_X3_plain l dC dI cI cJ cZ b kd vl lo hi nd so fr tg gn nr kp ah kx st mo ma fa op nx p0 p1 ) (cwV 2 hts gX3_sizeOf_X3_plain rfl rfl rfl (by decide +kernel) ⟨Nat.le_of_ble_eq_true rfl, Nat.le_of_ble_eq_true rfl⟩) (fb_v hK hP (va_recv hK hP (ci := 2) (q0 := 0) rfl rfl)) rfl rfl hl.1 rfl (lv_room (Nat.le_of_ble_eq_true rfl)) dX3_sizeOf_11 ⟨Nat.zero_le _, Nat.zero_le _⟩) ?_
    exact W.lret (v := (m_plain p0 p1)) hx hb hr (fun t ht hW => ⟨_, rfl, (by unfold m_sizeOf; rw [if_neg c_1]), ht⟩) (fun _ h => by cases h) dX3_sizeOf_14
def m_one (p0 : Int32) : Int64 :=
  if p0 = (2 : Int32) then (1065353216 : Int64)
  else (4607182418800017408 : Int64)
set_option maxHeartbeats 4000000 in
set_option maxRecDepth 100000 in
theorem c_X3_one (l : Launch) (dC : Nat → ClassId) (dI : Nat → Nat → Nat) (cI cJ cZ : ClassId) (b : Nat → Nat) (kd : Nat → Int32) (vl : Nat → Int64) (lo : Nat → Int64) (hi : Nat → Int64) (nd : Int32) (so : Nat → Int32) (fr : Nat → Int32) (tg : Nat → Int32) (gn : Nat → Int32) (nr : Int32) (kp : Nat → Int64) (ah : Nat → Int64) (kx : Nat → Int32) (st : Int32) (mo : Int32) (ma : Int32) (fa : Int32) (op : Nat → Int32) (nx : Nat → Int32) (p0 : Int32) : Met l yX3_one wsX3_one ({ frames := 0, cells := 0, slots := 0, locals := 0 }) (va_Pc [.ref (b 0), .int p0] (fun U => va_P (dC, dI) vwCl (wM cI cJ cZ b kd vl lo hi nd so fr tg gn nr kp ah kx st mo ma fa op nx) U.heap ∧ va_K (dC, dI) vwCl (tA cI cJ cZ) U)) (vp_Sl (fun r => r = m_one p0)) 0 0 (fun _ => False) := by
  refine Met.ofW (cc := cX3_one) (maxL := 2) (ret := (some .long)) (by decide) rfl ?_
  intro p e s m args below meth c s₁ B hml hv
  obtain ⟨rfl, hP, hK⟩ := hv
  have hx := B.exec
  have hb := B.bytes
  have hr := B.returns
  have hts := atoms_spec (ws := wsX3_one) B.pre
  have hown : s.vm.findClass RX3 = some m.cls := findClass_of_methodNamed B.named
  have hlocks := B.notSynchronized
  have k_0 := hts (.constantLong RX3 93 (4607182418800017408)) (by decide +kernel)
  have k_1 := hts (.constantLong RX3 91 (1065353216)) (by decide +kernel)
  have hl := lv_entry ([.ref (b 0), .int p0]) (n := 2) (Nat.le_of_ble_eq_true rfl)
  rw [lg_entry_eq]
  generalize (lg_sl ([.ref (b 0), .int p0]) ++ List.replicate (2 - (lg_sl ([.ref (b 0), .int p0])).length) Slot.unset).toArray = ls at hl ⊢
  have hl : lv_has ls 2 [(0, .ref (b 0)), (1, .int p0)] := hl
  refine lv_iload_n hx hb dX3_one_0 rfl (lv_at hl 1 rfl) ?_
  refine lv_iconst (v := 2) hx hb dX3_one_1 (by decide) ?_
  refine lv_icmp_ne (tgt := 11) hx hb dX3_one_2 (by decide) (fun c_1 => ?_) (fun c_1 => ?_)
  · skip
    refine lv_ldc2 hx hb hown k_0 dX3_one_11 ?_
    exact W.lret (v := (4607182418800017408 : Int64)) hx hb hr (fun t ht hW => ⟨_, rfl, (by unfold m_one; rw [if_neg c_1]), ht⟩) (fun _ h => by cases h) dX3_one_14
  · skip
    refine lv_ldc2 hx hb hown k_1 dX3_one_5 ?_
    refine lv_goto (tgt := 14) hx hb dX3_one_8 (by decide) ?_
    exact W.lret (v := (1065353216 : Int64)) hx hb hr (fun t ht hW => ⟨_, rfl, (by unfold m_one; rw [if_pos c_1]), ht⟩) (fun _ h => by cases h) dX3_one_14
def m_isDial (nd : Int32) (p0 : Int32) : Int32 :=
  if p0 < 0 then (0 : Int32)
  else if nd ≤ p0 then (0 : Int32)
    else (1 : Int32)
set_option maxHeartbeats 4000000 in
set_option maxRecDepth 100000 in
theorem c_X3_isDial (l : Launch) (dC : Nat → ClassId) (dI : Nat → Nat → Nat) (cI cJ cZ : ClassId) (b : Nat → Nat) (kd : Nat → Int32) (vl : Nat → Int64) (lo : Nat → Int64) (hi : Nat → Int64) (nd : Int32) (so : Nat → Int32) (fr : Nat → Int32) (tg : Nat → Int32) (gn : Nat → Int32) (nr : Int32) (kp : Nat → Int64) (ah : Nat → Int64) (kx : Nat → Int32) (st : Int32) (mo : Int32) (ma : Int32) (fa : Int32) (op : Nat → Int32) (nx : Nat → Int32) (p0 : Int32) : Met l yX3_isDial wsX3_isDial ({ frames := 0, cells := 0, slots := 0, locals := 0 }) (va_Pc [.ref (b 0), .int p0] (fun U => va_P (dC, dI) vwCl (wM cI cJ cZ b kd vl lo hi nd so fr tg gn nr kp ah kx st mo ma fa op nx) U.heap ∧ va_K (dC, dI) vwCl (tA cI cJ cZ) U)) (vp_Si (fun r => r = m_isDial nd p0)) 0 0 (fun _ => False) := by
  refine Met.ofW (cc := cX3_isDial) (maxL := 2) (ret := (some .boolean)) (by decide) rfl ?_
  intro p e s m args below meth c s₁ B hml hv
  obtain ⟨rfl, hP, hK⟩ := hv
  have hx := B.exec
  have hb := B.bytes
  have hr := B.returns
  have hts := atoms_spec (ws := wsX3_isDial) B.pre
  have hown : s.vm.findClass RX3 = some m.cls := findClass_of_methodNamed B.named
  have hlocks := B.notSynchronized
  have h_inX3 : ∀ w ∈ wsX30, w ∈ wsX3_isDial := fun _ h => List.mem_cons_of_mem _ (List.mem_append_right _ h)
  have k_0 := hts (.fieldLink RX3 51 "DetentCabinetModel" "dials" "I") (by decide +kernel)
  have hl := lv_entry ([.ref (b 0), .int p0]) (n := 2) (Nat.le_of_ble_eq_true rfl)
  rw [lg_entry_eq]
  generalize (lg_sl ([.ref (b 0), .int p0]) ++ List.replicate (2 - (lg_sl ([.ref (b 0), .int p0])).length) Slot.unset).toArray = ls at hl ⊢
  have hl : lv_has ls 2 [(0, .ref (b 0)), (1, .int p0)] := hl
  refine lv_iload_n hx hb dX3_isDial_0 rfl (lv_at hl 1 rfl) ?_
  refine lv_if_lt (tgt := 16) hx hb dX3_isDial_1 (by decide) (fun c_1 => ?_) (fun c_1 => ?_)
  · skip
    refine lv_iconst (v := 0) hx hb dX3_isDial_16 (by decide) ?_
    exact W.zret (v := (0 : Int32)) hx hb hr (by first | rfl | decide | assumption) (fun t ht hW => ⟨_, rfl, (by unfold m_isDial; rw [if_pos c_1]), ht⟩) (fun _ h => by cases h) dX3_isDial_17
  · skip
    refine lv_iload_n hx hb dX3_isDial_4 rfl (lv_at hl 1 rfl) ?_
    refine lv_aload_n hx hb dX3_isDial_5 rfl (lv_at hl 0 rfl) ?_
    refine va_get (D := (dC, dI)) (ci := 2) (v := .int nd) (C := RX3) (T := TX3) (N := 19) hx hb hts h_inX3 hown hK hP 0 rfl rfl 4 (by decide) k_0 (fun _ h9 => h9) rfl dX3_isDial_6 ?_
    refine lv_icmp_ge (tgt := 16) hx hb dX3_isDial_9 (by decide) (fun c_2 => ?_) (fun c_2 => ?_)
    · skip
      refine lv_iconst (v := 0) hx hb dX3_isDial_16 (by decide) ?_
      exact W.zret (v := (0 : Int32)) hx hb hr (by first | rfl | decide | assumption) (fun t ht hW => ⟨_, rfl, (by unfold m_isDial; rw [if_neg c_1, if_pos c_2]), ht⟩) (fun _ h => by cases h) dX3_isDial_17
    · skip
      refine lv_iconst (v := 1) hx hb dX3_isDial_12 (by decide) ?_
      refine lv_goto (tgt := 17) hx hb dX3_isDial_13 (by decide) ?_
      exact W.zret (v := (1 : Int32)) hx hb hr (by first | rfl | decide | assumption) (fun t ht hW => ⟨_, rfl, (by unfold m_isDial; rw [if_neg c_1, if_neg c_2]), ht⟩) (fun _ h => by cases h) dX3_isDial_17
theorem isDialm_iff {nd d : Int32} : ¬ m_isDial nd d = 0 ↔ (0 ≤ d ∧ d < nd) := by
  unfold m_isDial
  by_cases h1 : d < 0
  · rw [if_pos h1]
    exact ⟨fun h => absurd rfl h, fun h => absurd h1 (Int32.not_lt.mpr h.1)⟩
  · rw [if_neg h1]
    by_cases h2 : nd ≤ d
    · rw [if_pos h2]
      exact ⟨fun h => absurd rfl h, fun h => absurd h.2 (Int32.not_lt.mpr h2)⟩
    · rw [if_neg h2]
      exact ⟨fun _ => ⟨Int32.not_lt.mp h1, Int32.not_le.mp h2⟩, fun _ => by decide⟩
theorem in_dm {nd d : Int32} (hn : nd ≤ 16) (h : ¬ m_isDial nd d = 0) : vp_in d 16 := by
  obtain ⟨h1, h2⟩ := isDialm_iff.mp h
  rw [vp_in_iff]
  rw [Int32.le_iff_toInt_le] at h1 hn
  rw [Int32.lt_iff_toInt_lt] at h2
  have e0 : (0 : Int32).toInt = 0 := by decide
  have e16 : (16 : Int32).toInt = 16 := by decide
  omega
