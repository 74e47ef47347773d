def x_isSort (p0 : Int32) : Int32 :=
  if p0 < 0 then (0 : Int32)
  else if (3 : Int32) < p0 then (0 : Int32)
    else (1 : Int32)
set_option maxHeartbeats 4000000 in
set_option maxRecDepth 100000 in
theorem c_X2_isSort (l : Launch) (p0 : Int32) : Met l yX2_isSort wsX2_isSort ({ frames := 0, cells := 0, slots := 0, locals := 0 }) (va_Pc [.int p0] (fun _ => True)) (vp_Si (fun r => r = x_isSort p0)) 0 0 (fun _ => False) := by
  refine Met.ofW (cc := cX2_isSort) (maxL := 1) (ret := (some .boolean)) (by decide) rfl ?_
  intro p e s m args below meth c s₁ B hml hv
  obtain ⟨rfl, -⟩ := hv
  have hx := B.exec
  have hb := B.bytes
  have hr := B.returns
  have hts := atoms_spec (ws := wsX2_isSort) B.pre
  have hown : s.vm.findClass RX2 = some m.cls := findClass_of_methodNamed B.named
  have hlocks := B.notSynchronized
  have hl := lv_entry ([.int p0]) (n := 1) (Nat.le_of_ble_eq_true rfl)
  rw [lg_entry_eq]
  generalize (lg_sl ([.int p0]) ++ List.replicate (1 - (lg_sl ([.int p0])).length) Slot.unset).toArray = ls at hl ⊢
  have hl : lv_has ls 1 [(0, .int p0)] := hl
  refine lv_iload_n hx hb dX2_isSort_0 rfl (lv_at hl 0 rfl) ?_
  refine lv_if_lt (tgt := 13) hx hb dX2_isSort_1 (by decide) (fun c_1 => ?_) (fun c_1 => ?_)
  · skip
    refine lv_iconst (v := 0) hx hb dX2_isSort_13 (by decide) ?_
    exact W.zret (v := (0 : Int32)) hx hb hr (by first | rfl | decide | assumption) (fun t ht hW => ⟨_, rfl, (by unfold x_isSort; rw [if_pos c_1]), ht⟩) (fun _ h => by cases h) dX2_isSort_14
  · skip
    refine lv_iload_n hx hb dX2_isSort_4 rfl (lv_at hl 0 rfl) ?_
    refine lv_iconst (v := 3) hx hb dX2_isSort_5 (by decide) ?_
    refine lv_icmp_gt (tgt := 13) hx hb dX2_isSort_6 (by decide) (fun c_2 => ?_) (fun c_2 => ?_)
    · skip
      refine lv_iconst (v := 0) hx hb dX2_isSort_13 (by decide) ?_
      exact W.zret (v := (0 : Int32)) hx hb hr (by first | rfl | decide | assumption) (fun t ht hW => ⟨_, rfl, (by unfold x_isSort; rw [if_neg c_1, if_pos c_2]), ht⟩) (fun _ h => by cases h) dX2_isSort_14
    · skip
      refine lv_iconst (v := 1) hx hb dX2_isSort_9 (by decide) ?_
      refine lv_goto (tgt := 14) hx hb dX2_isSort_10 (by decide) ?_
      exact W.zret (v := (1 : Int32)) hx hb hr (by first | rfl | decide | assumption) (fun t ht hW => ⟨_, rfl, (by unfold x_isSort; rw [if_neg c_1, if_neg c_2]), ht⟩) (fun _ h => by cases h) dX2_isSort_14
def x_isDial (nd : Int32) (p0 : Int32) : Int32 :=
  if p0 < 0 then (0 : Int32)
  else if nd ≤ p0 then (0 : Int32)
    else (1 : Int32)
set_option maxHeartbeats 4000000 in
set_option maxRecDepth 100000 in
theorem c_X2_isDial (l : Launch) (dC : Nat → ClassId) (dI : Nat → Nat → Nat) (cI cJ cZ : ClassId) (a : Nat → Nat) (kd : Nat → Int32) (lo : Nat → Int64) (hi : Nat → Int64) (vl : Nat → Int64) (nd : Int32) (so : Nat → Int32) (fr : Nat → Int32) (tg : Nat → Int32) (gn : Nat → Int32) (nr : Int32) (mo : Int32) (ma : Int32) (fa : Int32) (sv : Nat → Int64) (sd : Nat → Int32) (se : Int32) (sh : Int32) (p0 : Int32) : Met l yX2_isDial wsX2_isDial ({ frames := 0, cells := 0, slots := 0, locals := 0 }) (va_Pc [.ref (a 0), .int p0] (fun U => va_P (dC, dI) vwCl (wX cI cJ cZ a kd lo hi vl nd so fr tg gn nr mo ma fa sv sd se sh) U.heap ∧ va_K (dC, dI) vwCl (tA cI cJ cZ) U)) (vp_Si (fun r => r = x_isDial nd p0)) 0 0 (fun _ => False) := by
  refine Met.ofW (cc := cX2_isDial) (maxL := 2) (ret := (some .boolean)) (by decide) rfl ?_
  intro p e s m args below meth c s₁ B hml hv
  obtain ⟨rfl, hP, hK⟩ := hv
  have hx := B.exec
  have hb := B.bytes
  have hr := B.returns
  have hts := atoms_spec (ws := wsX2_isDial) B.pre
  have hown : s.vm.findClass RX2 = some m.cls := findClass_of_methodNamed B.named
  have hlocks := B.notSynchronized
  have h_inX2 : ∀ w ∈ wsX20, w ∈ wsX2_isDial := fun _ h => List.mem_cons_of_mem _ (List.mem_append_right _ h)
  have k_0 := hts (.fieldLink RX2 51 "DetentCabinet" "dialCount" "I") (by decide +kernel)
  have hl := lv_entry ([.ref (a 0), .int p0]) (n := 2) (Nat.le_of_ble_eq_true rfl)
  rw [lg_entry_eq]
  generalize (lg_sl ([.ref (a 0), .int p0]) ++ List.replicate (2 - (lg_sl ([.ref (a 0), .int p0])).length) Slot.unset).toArray = ls at hl ⊢
  have hl : lv_has ls 2 [(0, .ref (a 0)), (1, .int p0)] := hl
  refine lv_iload_n hx hb dX2_isDial_0 rfl (lv_at hl 1 rfl) ?_
  refine lv_if_lt (tgt := 16) hx hb dX2_isDial_1 (by decide) (fun c_1 => ?_) (fun c_1 => ?_)
  · skip
    refine lv_iconst (v := 0) hx hb dX2_isDial_16 (by decide) ?_
    exact W.zret (v := (0 : Int32)) hx hb hr (by first | rfl | decide | assumption) (fun t ht hW => ⟨_, rfl, (by unfold x_isDial; rw [if_pos c_1]), ht⟩) (fun _ h => by cases h) dX2_isDial_17
  · skip
    refine lv_iload_n hx hb dX2_isDial_4 rfl (lv_at hl 1 rfl) ?_
    refine lv_aload_n hx hb dX2_isDial_5 rfl (lv_at hl 0 rfl) ?_
    refine va_get (D := (dC, dI)) (ci := 1) (v := .int nd) (C := RX2) (T := TX2) (N := 14) hx hb hts h_inX2 hown hK hP 0 rfl rfl 4 (by decide) k_0 (fun _ h9 => h9) rfl dX2_isDial_6 ?_
    refine lv_icmp_ge (tgt := 16) hx hb dX2_isDial_9 (by decide) (fun c_2 => ?_) (fun c_2 => ?_)
    · skip
      refine lv_iconst (v := 0) hx hb dX2_isDial_16 (by decide) ?_
      exact W.zret (v := (0 : Int32)) hx hb hr (by first | rfl | decide | assumption) (fun t ht hW => ⟨_, rfl, (by unfold x_isDial; rw [if_neg c_1, if_pos c_2]), ht⟩) (fun _ h => by cases h) dX2_isDial_17
    · skip
      refine lv_iconst (v := 1) hx hb dX2_isDial_12 (by decide) ?_
      refine lv_goto (tgt := 17) hx hb dX2_isDial_13 (by decide) ?_
      exact W.zret (v := (1 : Int32)) hx hb hr (by first | rfl | decide | assumption) (fun t ht hW => ⟨_, rfl, (by unfold x_isDial; rw [if_neg c_1, if_neg c_2]), ht⟩) (fun _ h => by cases h) dX2_isDial_17
theorem isDial_iff {nd d : Int32} : ¬ x_isDial nd d = 0 ↔ (0 ≤ d ∧ d < nd) := by
  unfold x_isDial
  by_cases h1 : d < 0
  · rw [if_pos h1]
    exact ⟨fun h => absurd rfl h, fun h => absurd h1 (Int32.not_lt.mpr h.1)⟩
  · rw [if_neg h1]
    by_cases h2 : nd ≤ d
    · rw [if_pos h2]
      exact ⟨fun h => absurd rfl h, fun h => absurd h.2 (Int32.not_lt.mpr h2)⟩
    · rw [if_neg h2]
      exact ⟨fun _ => ⟨Int32.not_lt.mp h1, Int32.not_le.mp h2⟩, fun _ => by decide⟩
theorem in_d {nd d : Int32} (hn : nd ≤ 16) (h : ¬ x_isDial nd d = 0) : vp_in d 16 := by
  obtain ⟨h1, h2⟩ := isDial_iff.mp h
  rw [vp_in_iff]
  rw [Int32.le_iff_toInt_le] at h1 hn
  rw [Int32.lt_iff_toInt_lt] at h2
  have e0 : (0 : Int32).toInt = 0 := by decide
  have e16 : (16 : Int32).toInt = 16 := by decide
  omega
def x_faultOfDial (nd : Int32) (p0 : Int32) (p1 : Int64) (p2 : Int64) : Int32 :=
  if p0 < 0 then (2 : Int32)
  else if p0 ≤ (3 : Int32) then (if nd < (16 : Int32) then (if (n_isOfKind p0 p1) = 0 then (3 : Int32)
        else if (n_isOfKind p0 p2) = 0 then (3 : Int32)
          else if (n_compared p0 p1 p2) ≤ 0 then (0 : Int32)
            else (4 : Int32))
      else (5 : Int32))
    else (2 : Int32)
set_option maxHeartbeats 4000000 in
set_option maxRecDepth 100000 in
theorem c_X2_faultOfDial (l : Launch) (dC : Nat → ClassId) (dI : Nat → Nat → Nat) (cI cJ cZ : ClassId) (a : Nat → Nat) (kd : Nat → Int32) (lo : Nat → Int64) (hi : Nat → Int64) (vl : Nat → Int64) (nd : Int32) (so : Nat → Int32) (fr : Nat → Int32) (tg : Nat → Int32) (gn : Nat → Int32) (nr : Int32) (mo : Int32) (ma : Int32) (fa : Int32) (sv : Nat → Int64) (sd : Nat → Int32) (se : Int32) (sh : Int32) (p0 : Int32) (p1 : Int64) (p2 : Int64) : Met l yX2_faultOfDial wsX2_faultOfDial ({ frames := 3, cells := 0, slots := 0, locals := 70 }) (va_Pc [.ref (a 0), .int p0, .long p1, .long p2] (fun U => va_P (dC, dI) vwCl (wX cI cJ cZ a kd lo hi vl nd so fr tg gn nr mo ma fa sv sd se sh) U.heap ∧ va_K (dC, dI) vwCl (tA cI cJ cZ) U)) (vp_Si (fun r => r = x_faultOfDial nd p0 p1 p2)) 0 0 (fun _ => False) := by
  refine Met.ofW (cc := cX2_faultOfDial) (maxL := 6) (ret := (some .int)) (by decide) rfl ?_
  intro p e s m args below meth c s₁ B hml hv
  obtain ⟨rfl, hP, hK⟩ := hv
  have hx := B.exec
  have hb := B.bytes
  have hr := B.returns
  have hts := atoms_spec (ws := wsX2_faultOfDial) B.pre
  have hown : s.vm.findClass RX2 = some m.cls := findClass_of_methodNamed B.named
  have hlocks := B.notSynchronized
  have h_inX2 : ∀ w ∈ wsX20, w ∈ wsX2_faultOfDial := fun _ h => List.mem_cons_of_mem _ (List.mem_append_right _ h)
  have k_0 := hts (.fieldLink RX2 51 "DetentCabinet" "dialCount" "I") (by decide +kernel)
  have hl := lv_entry ([.ref (a 0), .int p0, .long p1, .long p2]) (n := 6) (Nat.le_of_ble_eq_true rfl)
  rw [lg_entry_eq]
  generalize (lg_sl ([.ref (a 0), .int p0, .long p1, .long p2]) ++ List.replicate (6 - (lg_sl ([.ref (a 0), .int p0, .long p1, .long p2])).length) Slot.unset).toArray = ls at hl ⊢
  have hl : lv_has ls 6 [(0, .ref (a 0)), (1, .int p0), (2, .long p1), (4, .long p2)] := hl
  refine lv_iload_n hx hb dX2_faultOfDial_0 rfl (lv_at hl 1 rfl) ?_
  refine lv_if_lt (tgt := 9) hx hb dX2_faultOfDial_1 (by decide) (fun c_1 => ?_) (fun c_1 => ?_)
  · skip
    refine lv_iconst (v := 2) hx hb dX2_faultOfDial_9 (by decide) ?_
    exact W.iret (v := (2 : Int32)) hx hb hr (fun t ht hW => ⟨_, rfl, (by unfold x_faultOfDial; rw [if_pos c_1]), ht⟩) (fun _ h => by cases h) dX2_faultOfDial_10
  · skip
    refine lv_iload_n hx hb dX2_faultOfDial_4 rfl (lv_at hl 1 rfl) ?_
    refine lv_iconst (v := 3) hx hb dX2_faultOfDial_5 (by decide) ?_
    refine lv_icmp_le (tgt := 11) hx hb dX2_faultOfDial_6 (by decide) (fun c_2 => ?_) (fun c_2 => ?_)
    · skip
      refine lv_aload_n hx hb dX2_faultOfDial_11 rfl (lv_at hl 0 rfl) ?_
      refine va_get (D := (dC, dI)) (ci := 1) (v := .int nd) (C := RX2) (T := TX2) (N := 14) hx hb hts h_inX2 hown hK hP 0 rfl rfl 4 (by decide) k_0 (fun _ h9 => h9) rfl dX2_faultOfDial_12 ?_
      refine lv_bipush (v := 16) hx hb dX2_faultOfDial_15 (by decide) ?_
      refine lv_icmp_lt (tgt := 22) hx hb dX2_faultOfDial_17 (by decide) (fun c_3 => ?_) (fun c_3 => ?_)
      · skip
        refine lv_iload_n hx hb dX2_faultOfDial_22 rfl (lv_at hl 1 rfl) ?_
        refine lv_lload_n hx hb dX2_faultOfDial_23 rfl (lv_at hl 2 rfl) ?_
        refine cs_i (W.runS (As := [.int p0, .long p1]) (rest := []) ⟨hx, hb, hml, hown, hts⟩ (c_X0_isOfKind l p0 p1 ) (va_cwS 2 hts gX2_faultOfDial_X0_isOfKind rfl rfl rfl (by decide +kernel) ⟨Nat.le_of_ble_eq_true rfl, Nat.le_of_ble_eq_true rfl⟩) fb_s rfl rfl hl.1 rfl (lv_room (Nat.le_of_ble_eq_true rfl)) dX2_faultOfDial_24 ⟨Nat.zero_le _, Nat.zero_le _⟩) ?_
        refine lv_if_eq (tgt := 39) hx hb dX2_faultOfDial_27 (by decide) (fun c_4 => ?_) (fun c_4 => ?_)
        · skip
          refine lv_iconst (v := 3) hx hb dX2_faultOfDial_39 (by decide) ?_
          exact W.iret (v := (3 : Int32)) hx hb hr (fun t ht hW => ⟨_, rfl, (by unfold x_faultOfDial; rw [if_neg c_1, if_pos c_2, if_pos c_3, if_pos c_4]), ht⟩) (fun _ h => by cases h) dX2_faultOfDial_40
        · skip
          refine lv_iload_n hx hb dX2_faultOfDial_30 rfl (lv_at hl 1 rfl) ?_
          refine lv_lload hx hb dX2_faultOfDial_31 (lv_at hl 3 rfl) ?_
          refine cs_i (W.runS (As := [.int p0, .long p2]) (rest := []) ⟨hx, hb, hml, hown, hts⟩ (c_X0_isOfKind l p0 p2 ) (va_cwS 2 hts gX2_faultOfDial_X0_isOfKind rfl rfl rfl (by decide +kernel) ⟨Nat.le_of_ble_eq_true rfl, Nat.le_of_ble_eq_true rfl⟩) fb_s rfl rfl hl.1 rfl (lv_room (Nat.le_of_ble_eq_true rfl)) dX2_faultOfDial_33 ⟨Nat.zero_le _, Nat.zero_le _⟩) ?_
          refine lv_if_ne (tgt := 41) hx hb dX2_faultOfDial_36 (by decide) (fun c_5 => ?_) (fun c_5 => ?_)
          · skip
            refine lv_iload_n hx hb dX2_faultOfDial_41 rfl (lv_at hl 1 rfl) ?_
            refine lv_lload_n hx hb dX2_faultOfDial_42 rfl (lv_at hl 2 rfl) ?_
            refine lv_lload hx hb dX2_faultOfDial_43 (lv_at hl 3 rfl) ?_
            refine cs_i (W.runS (As := [.int p0, .long p1, .long p2]) (rest := []) ⟨hx, hb, hml, hown, hts⟩ (c_X0_compared l p0 p1 p2 ) (va_cwS 3 hts gX2_faultOfDial_X0_compared rfl rfl rfl (by decide +kernel) ⟨Nat.le_of_ble_eq_true rfl, Nat.le_of_ble_eq_true rfl⟩) fb_s rfl rfl hl.1 rfl (lv_room (Nat.le_of_ble_eq_true rfl)) dX2_faultOfDial_45 ⟨Nat.zero_le _, Nat.zero_le _⟩) ?_
            refine lv_if_le (tgt := 55) hx hb dX2_faultOfDial_48 (by decide) (fun c_6 => ?_) (fun c_6 => ?_)
            · skip
              refine lv_iconst (v := 0) hx hb dX2_faultOfDial_55 (by decide) ?_
              exact W.iret (v := (0 : Int32)) hx hb hr (fun t ht hW => ⟨_, rfl, (by unfold x_faultOfDial; rw [if_neg c_1, if_pos c_2, if_pos c_3, if_neg c_4, if_neg c_5, if_pos c_6]), ht⟩) (fun _ h => by cases h) dX2_faultOfDial_56
            · skip
              refine lv_iconst (v := 4) hx hb dX2_faultOfDial_51 (by decide) ?_
              refine lv_goto (tgt := 56) hx hb dX2_faultOfDial_52 (by decide) ?_
              exact W.iret (v := (4 : Int32)) hx hb hr (fun t ht hW => ⟨_, rfl, (by unfold x_faultOfDial; rw [if_neg c_1, if_pos c_2, if_pos c_3, if_neg c_4, if_neg c_5, if_neg c_6]), ht⟩) (fun _ h => by cases h) dX2_faultOfDial_56
          · skip
            refine lv_iconst (v := 3) hx hb dX2_faultOfDial_39 (by decide) ?_
            exact W.iret (v := (3 : Int32)) hx hb hr (fun t ht hW => ⟨_, rfl, (by unfold x_faultOfDial; rw [if_neg c_1, if_pos c_2, if_pos c_3, if_neg c_4, if_pos c_5]), ht⟩) (fun _ h => by cases h) dX2_faultOfDial_40
      · skip
        refine lv_iconst (v := 5) hx hb dX2_faultOfDial_20 (by decide) ?_
        exact W.iret (v := (5 : Int32)) hx hb hr (fun t ht hW => ⟨_, rfl, (by unfold x_faultOfDial; rw [if_neg c_1, if_pos c_2, if_neg c_3]), ht⟩) (fun _ h => by cases h) dX2_faultOfDial_21
    · skip
      refine lv_iconst (v := 2) hx hb dX2_faultOfDial_9 (by decide) ?_
      exact W.iret (v := (2 : Int32)) hx hb hr (fun t ht hW => ⟨_, rfl, (by unfold x_faultOfDial; rw [if_neg c_1, if_neg c_2]), ht⟩) (fun _ h => by cases h) dX2_faultOfDial_10
def x_faultOfPair (kd : Nat → Int32) (p0 : Int32) (p1 : Int32) (p2 : Int32) : Int32 :=
  if p1 = p2 then (6 : Int32)
  else if (kd p1.toNatClampNeg) = (kd p2.toNatClampNeg) then (if p0 = (2 : Int32) then (if (n_isReal (kd p1.toNatClampNeg)) = 0 then (2 : Int32)
        else (0 : Int32))
      else (0 : Int32))
    else (6 : Int32)
set_option maxHeartbeats 4000000 in
set_option maxRecDepth 100000 in
theorem c_X2_faultOfPair (l : Launch) (dC : Nat → ClassId) (dI : Nat → Nat → Nat) (cI cJ cZ : ClassId) (a : Nat → Nat) (kd : Nat → Int32) (lo : Nat → Int64) (hi : Nat → Int64) (vl : Nat → Int64) (nd : Int32) (so : Nat → Int32) (fr : Nat → Int32) (tg : Nat → Int32) (gn : Nat → Int32) (nr : Int32) (mo : Int32) (ma : Int32) (fa : Int32) (sv : Nat → Int64) (sd : Nat → Int32) (se : Int32) (sh : Int32) (p0 : Int32) (p1 : Int32) (p2 : Int32) (hf : vp_in p1 16) (ht : vp_in p2 16) : Met l yX2_faultOfPair wsX2_faultOfPair ({ frames := 1, cells := 0, slots := 0, locals := 20 }) (va_Pc [.ref (a 0), .int p0, .int p1, .int p2] (fun U => va_P (dC, dI) vwCl (wX cI cJ cZ a kd lo hi vl nd so fr tg gn nr mo ma fa sv sd se sh) U.heap ∧ va_K (dC, dI) vwCl (tA cI cJ cZ) U)) (vp_Si (fun r => r = x_faultOfPair kd p0 p1 p2)) 0 0 (fun _ => False) := by
  refine Met.ofW (cc := cX2_faultOfPair) (maxL := 4) (ret := (some .int)) (by decide) rfl ?_
  intro p e s m args below meth c s₁ B hml hv
  obtain ⟨rfl, hP, hK⟩ := hv
  have hx := B.exec
  have hb := B.bytes
  have hr := B.returns
  have hts := atoms_spec (ws := wsX2_faultOfPair) B.pre
  have hown : s.vm.findClass RX2 = some m.cls := findClass_of_methodNamed B.named
  have hlocks := B.notSynchronized
  have h_inX2 : ∀ w ∈ wsX20, w ∈ wsX2_faultOfPair := fun _ h => List.mem_cons_of_mem _ (List.mem_append_right _ h)
  have k_0 := hts (.fieldLink RX2 9 "DetentCabinet" "kinds" "[I") (by decide +kernel)
  have hl := lv_entry ([.ref (a 0), .int p0, .int p1, .int p2]) (n := 4) (Nat.le_of_ble_eq_true rfl)
  rw [lg_entry_eq]
  generalize (lg_sl ([.ref (a 0), .int p0, .int p1, .int p2]) ++ List.replicate (4 - (lg_sl ([.ref (a 0), .int p0, .int p1, .int p2])).length) Slot.unset).toArray = ls at hl ⊢
  have hl : lv_has ls 4 [(0, .ref (a 0)), (1, .int p0), (2, .int p1), (3, .int p2)] := hl
  refine lv_iload_n hx hb dX2_faultOfPair_0 rfl (lv_at hl 2 rfl) ?_
  refine lv_iload_n hx hb dX2_faultOfPair_1 rfl (lv_at hl 3 rfl) ?_
  refine lv_icmp_eq (tgt := 20) hx hb dX2_faultOfPair_2 (by decide) (fun c_1 => ?_) (fun c_1 => ?_)
  · skip
    refine lv_bipush (v := 6) hx hb dX2_faultOfPair_20 (by decide) ?_
    exact W.iret (v := (6 : Int32)) hx hb hr (fun t ht hW => ⟨_, rfl, (by unfold x_faultOfPair; rw [if_pos c_1]), ht⟩) (fun _ h => by cases h) dX2_faultOfPair_22
  · skip
    refine lv_aload_n hx hb dX2_faultOfPair_5 rfl (lv_at hl 0 rfl) ?_
    refine va_get (D := (dC, dI)) (ci := 1) (v := .ref (a 1)) (C := RX2) (T := TX2) (N := 14) hx hb hts h_inX2 hown hK hP 0 rfl rfl 0 (by decide) k_0 (fun _ h9 => h9) rfl dX2_faultOfPair_6 ?_
    refine lv_iload_n hx hb dX2_faultOfPair_9 rfl (lv_at hl 2 rfl) ?_
    refine va_iald hx hb hK hP 1 0 rfl rfl (by assumption) dX2_faultOfPair_10 ?_
    refine lv_aload_n hx hb dX2_faultOfPair_11 rfl (lv_at hl 0 rfl) ?_
    refine va_get (D := (dC, dI)) (ci := 1) (v := .ref (a 1)) (C := RX2) (T := TX2) (N := 14) hx hb hts h_inX2 hown hK hP 0 rfl rfl 0 (by decide) k_0 (fun _ h9 => h9) rfl dX2_faultOfPair_12 ?_
    refine lv_iload_n hx hb dX2_faultOfPair_15 rfl (lv_at hl 3 rfl) ?_
    refine va_iald hx hb hK hP 1 0 rfl rfl (by assumption) dX2_faultOfPair_16 ?_
    refine lv_icmp_eq (tgt := 23) hx hb dX2_faultOfPair_17 (by decide) (fun c_2 => ?_) (fun c_2 => ?_)
    · skip
      refine lv_iload_n hx hb dX2_faultOfPair_23 rfl (lv_at hl 1 rfl) ?_
      refine lv_iconst (v := 2) hx hb dX2_faultOfPair_24 (by decide) ?_
      refine lv_icmp_ne (tgt := 44) hx hb dX2_faultOfPair_25 (by decide) (fun c_3 => ?_) (fun c_3 => ?_)
      · skip
        refine lv_iconst (v := 0) hx hb dX2_faultOfPair_44 (by decide) ?_
        exact W.iret (v := (0 : Int32)) hx hb hr (fun t ht hW => ⟨_, rfl, (by unfold x_faultOfPair; rw [if_neg c_1, if_pos c_2, if_neg c_3]), ht⟩) (fun _ h => by cases h) dX2_faultOfPair_45
      · skip
        refine lv_aload_n hx hb dX2_faultOfPair_28 rfl (lv_at hl 0 rfl) ?_
        refine va_get (D := (dC, dI)) (ci := 1) (v := .ref (a 1)) (C := RX2) (T := TX2) (N := 14) hx hb hts h_inX2 hown hK hP 0 rfl rfl 0 (by decide) k_0 (fun _ h9 => h9) rfl dX2_faultOfPair_29 ?_
        refine lv_iload_n hx hb dX2_faultOfPair_32 rfl (lv_at hl 2 rfl) ?_
        refine va_iald hx hb hK hP 1 0 rfl rfl (by assumption) dX2_faultOfPair_33 ?_
        refine cs_i (W.runS (As := [.int (kd p1.toNatClampNeg)]) (rest := []) ⟨hx, hb, hml, hown, hts⟩ (c_X0_isReal l (kd p1.toNatClampNeg) ) (va_cwS 1 hts gX2_faultOfPair_X0_isReal rfl rfl rfl (by decide +kernel) ⟨Nat.le_of_ble_eq_true rfl, Nat.le_of_ble_eq_true rfl⟩) fb_s rfl rfl hl.1 rfl (lv_room (Nat.le_of_ble_eq_true rfl)) dX2_faultOfPair_34 ⟨Nat.zero_le _, Nat.zero_le _⟩) ?_
        refine lv_if_ne (tgt := 44) hx hb dX2_faultOfPair_37 (by decide) (fun c_4 => ?_) (fun c_4 => ?_)
        · skip
          refine lv_iconst (v := 0) hx hb dX2_faultOfPair_44 (by decide) ?_
          exact W.iret (v := (0 : Int32)) hx hb hr (fun t ht hW => ⟨_, rfl, (by unfold x_faultOfPair; rw [if_neg c_1, if_pos c_2, if_pos c_3, if_neg c_4]), ht⟩) (fun _ h => by cases h) dX2_faultOfPair_45
        · skip
          refine lv_iconst (v := 2) hx hb dX2_faultOfPair_40 (by decide) ?_
          refine lv_goto (tgt := 45) hx hb dX2_faultOfPair_41 (by decide) ?_
          exact W.iret (v := (2 : Int32)) hx hb hr (fun t ht hW => ⟨_, rfl, (by unfold x_faultOfPair; rw [if_neg c_1, if_pos c_2, if_pos c_3, if_pos c_4]), ht⟩) (fun _ h => by cases h) dX2_faultOfPair_45
    · skip
      refine lv_bipush (v := 6) hx hb dX2_faultOfPair_20 (by decide) ?_
      exact W.iret (v := (6 : Int32)) hx hb hr (fun t ht hW => ⟨_, rfl, (by unfold x_faultOfPair; rw [if_neg c_1, if_neg c_2]), ht⟩) (fun _ h => by cases h) dX2_faultOfPair_22
def x_faultOfRod (kd : Nat → Int32) (nd : Int32) (nr : Int32) (p0 : Int32) (p1 : Int32) (p2 : Int32) : Int32 :=
  if (x_isSort p0) = 0 then (2 : Int32)
  else if (x_isDial nd p1) = 0 then (1 : Int32)
    else if (x_isDial nd p2) = 0 then (1 : Int32)
      else if (x_faultOfPair kd p0 p1 p2) = 0 then (if nr < (24 : Int32) then (0 : Int32)
          else (5 : Int32))
        else (x_faultOfPair kd p0 p1 p2)
set_option maxHeartbeats 4000000 in
set_option maxRecDepth 100000 in
theorem c_X2_faultOfRod (l : Launch) (dC : Nat → ClassId) (dI : Nat → Nat → Nat) (cI cJ cZ : ClassId) (a : Nat → Nat) (kd : Nat → Int32) (lo : Nat → Int64) (hi : Nat → Int64) (vl : Nat → Int64) (nd : Int32) (so : Nat → Int32) (fr : Nat → Int32) (tg : Nat → Int32) (gn : Nat → Int32) (nr : Int32) (mo : Int32) (ma : Int32) (fa : Int32) (sv : Nat → Int64) (sd : Nat → Int32) (se : Int32) (sh : Int32) (p0 : Int32) (p1 : Int32) (p2 : Int32) (hn : nd ≤ 16) : Met l yX2_faultOfRod wsX2_faultOfRod ({ frames := 2, cells := 0, slots := 0, locals := 43 }) (va_Pc [.ref (a 0), .int p0, .int p1, .int p2] (fun U => va_P (dC, dI) vwCl (wX cI cJ cZ a kd lo hi vl nd so fr tg gn nr mo ma fa sv sd se sh) U.heap ∧ va_K (dC, dI) vwCl (tA cI cJ cZ) U)) (vp_Si (fun r => r = x_faultOfRod kd nd nr p0 p1 p2)) 0 0 (fun _ => False) := by
  refine Met.ofW (cc := cX2_faultOfRod) (maxL := 5) (ret := (some .int)) (by decide) rfl ?_
  intro p e s m args below meth c s₁ B hml hv
  obtain ⟨rfl, hP, hK⟩ := hv
  have hx := B.exec
  have hb := B.bytes
  have hr := B.returns
  have hts := atoms_spec (ws := wsX2_faultOfRod) B.pre
  have hown : s.vm.findClass RX2 = some m.cls := findClass_of_methodNamed B.named
  have hlocks := B.notSynchronized
  have h_inX2 : ∀ w ∈ wsX20, w ∈ wsX2_faultOfRod := fun _ h => List.mem_cons_of_mem _ (List.mem_append_right _ h)
  have k_0 := hts (.fieldLink RX2 64 "DetentCabinet" "rodCount" "I") (by decide +kernel)
  have hl := lv_entry ([.ref (a 0), .int p0, .int p1, .int p2]) (n := 5) (Nat.le_of_ble_eq_true rfl)
  rw [lg_entry_eq]
  generalize (lg_sl ([.ref (a 0), .int p0, .int p1, .int p2]) ++ List.replicate (5 - (lg_sl ([.ref (a 0), .int p0, .int p1, .int p2])).length) Slot.unset).toArray = ls at hl ⊢
  have hl : lv_has ls 5 [(0, .ref (a 0)), (1, .int p0), (2, .int p1), (3, .int p2)] := hl
  refine lv_iload_n hx hb dX2_faultOfRod_0 rfl (lv_at hl 1 rfl) ?_
  refine cs_i (W.runS (As := [.int p0]) (rest := []) ⟨hx, hb, hml, hown, hts⟩ (c_X2_isSort l p0 ) (va_cwS 1 hts gX2_faultOfRod_X2_isSort rfl rfl rfl (by decide +kernel) ⟨Nat.le_of_ble_eq_true rfl, Nat.le_of_ble_eq_true rfl⟩) fb_s rfl rfl hl.1 rfl (lv_room (Nat.le_of_ble_eq_true rfl)) dX2_faultOfRod_1 ⟨Nat.zero_le _, Nat.zero_le _⟩) ?_
  refine lv_if_ne (tgt := 9) hx hb dX2_faultOfRod_4 (by decide) (fun c_1 => ?_) (fun c_1 => ?_)
  · skip
    refine lv_aload_n hx hb dX2_faultOfRod_9 rfl (lv_at hl 0 rfl) ?_
    refine lv_iload_n hx hb dX2_faultOfRod_10 rfl (lv_at hl 2 rfl) ?_
    refine cs_i (W.runV (As := [.int p1]) (rest := []) ⟨hx, hb, hml, hown, hts⟩ (c_X2_isDial l dC dI cI cJ cZ a kd lo hi vl nd so fr tg gn nr mo ma fa sv sd se sh p1 ) (cwV 1 hts gX2_faultOfRod_X2_isDial rfl rfl rfl (by decide +kernel) ⟨Nat.le_of_ble_eq_true rfl, Nat.le_of_ble_eq_true rfl⟩) (fb_v hK hP (va_recv hK hP (ci := 1) (q0 := 0) rfl rfl)) rfl rfl hl.1 rfl (lv_room (Nat.le_of_ble_eq_true rfl)) dX2_faultOfRod_11 ⟨Nat.zero_le _, Nat.zero_le _⟩) ?_
    refine lv_if_eq (tgt := 25) hx hb dX2_faultOfRod_14 (by decide) (fun c_2 => ?_) (fun c_2 => ?_)
    · skip
      refine lv_iconst (v := 1) hx hb dX2_faultOfRod_25 (by decide) ?_
      exact W.iret (v := (1 : Int32)) hx hb hr (fun t ht hW => ⟨_, rfl, (by unfold x_faultOfRod; rw [if_neg c_1, if_pos c_2]), ht⟩) (fun _ h => by cases h) dX2_faultOfRod_26
    · skip
      refine lv_aload_n hx hb dX2_faultOfRod_17 rfl (lv_at hl 0 rfl) ?_
      refine lv_iload_n hx hb dX2_faultOfRod_18 rfl (lv_at hl 3 rfl) ?_
      refine cs_i (W.runV (As := [.int p2]) (rest := []) ⟨hx, hb, hml, hown, hts⟩ (c_X2_isDial l dC dI cI cJ cZ a kd lo hi vl nd so fr tg gn nr mo ma fa sv sd se sh p2 ) (cwV 1 hts gX2_faultOfRod_X2_isDial rfl rfl rfl (by decide +kernel) ⟨Nat.le_of_ble_eq_true rfl, Nat.le_of_ble_eq_true rfl⟩) (fb_v hK hP (va_recv hK hP (ci := 1) (q0 := 0) rfl rfl)) rfl rfl hl.1 rfl (lv_room (Nat.le_of_ble_eq_true rfl)) dX2_faultOfRod_19 ⟨Nat.zero_le _, Nat.zero_le _⟩) ?_
      refine lv_if_ne (tgt := 27) hx hb dX2_faultOfRod_22 (by decide) (fun c_3 => ?_) (fun c_3 => ?_)
      · skip
        refine lv_aload_n hx hb dX2_faultOfRod_27 rfl (lv_at hl 0 rfl) ?_
        refine lv_iload_n hx hb dX2_faultOfRod_28 rfl (lv_at hl 1 rfl) ?_
        refine lv_iload_n hx hb dX2_faultOfRod_29 rfl (lv_at hl 2 rfl) ?_
        refine lv_iload_n hx hb dX2_faultOfRod_30 rfl (lv_at hl 3 rfl) ?_
        refine cs_i (W.runV (As := [.int p0, .int p1, .int p2]) (rest := []) ⟨hx, hb, hml, hown, hts⟩ (c_X2_faultOfPair l dC dI cI cJ cZ a kd lo hi vl nd so fr tg gn nr mo ma fa sv sd se sh p0 p1 p2 (in_d hn (by assumption)) (in_d hn (by assumption))) (cwV 3 hts gX2_faultOfRod_X2_faultOfPair rfl rfl rfl (by decide +kernel) ⟨Nat.le_of_ble_eq_true rfl, Nat.le_of_ble_eq_true rfl⟩) (fb_v hK hP (va_recv hK hP (ci := 1) (q0 := 0) rfl rfl)) rfl rfl hl.1 rfl (lv_room (Nat.le_of_ble_eq_true rfl)) dX2_faultOfRod_31 ⟨Nat.zero_le _, Nat.zero_le _⟩) ?_
        refine lv_istore (lv' := [(4, .int (x_faultOfPair kd p0 p1 p2)), (0, .ref (a 0)), (1, .int p0), (2, .int p1), (3, .int p2)]) hx hb dX2_faultOfRod_34 hl (by decide) rfl (fun ls hl => ?_)
        refine lv_iload hx hb dX2_faultOfRod_36 (lv_at hl 0 rfl) ?_
        refine lv_if_eq (tgt := 44) hx hb dX2_faultOfRod_38 (by decide) (fun c_4 => ?_) (fun c_4 => ?_)
        · skip
          refine lv_aload_n hx hb dX2_faultOfRod_44 rfl (lv_at hl 1 rfl) ?_
          refine va_get (D := (dC, dI)) (ci := 1) (v := .int nr) (C := RX2) (T := TX2) (N := 14) hx hb hts h_inX2 hown hK hP 0 rfl rfl 9 (by decide) k_0 (fun _ h9 => h9) rfl dX2_faultOfRod_45 ?_
          refine lv_bipush (v := 24) hx hb dX2_faultOfRod_48 (by decide) ?_
          refine lv_icmp_lt (tgt := 57) hx hb dX2_faultOfRod_50 (by decide) (fun c_5 => ?_) (fun c_5 => ?_)
          · skip
            refine lv_iconst (v := 0) hx hb dX2_faultOfRod_57 (by decide) ?_
            exact W.iret (v := (0 : Int32)) hx hb hr (fun t ht hW => ⟨_, rfl, (by unfold x_faultOfRod; rw [if_neg c_1, if_neg c_2, if_neg c_3, if_pos c_4, if_pos c_5]), ht⟩) (fun _ h => by cases h) dX2_faultOfRod_58
          · skip
            refine lv_iconst (v := 5) hx hb dX2_faultOfRod_53 (by decide) ?_
            refine lv_goto (tgt := 58) hx hb dX2_faultOfRod_54 (by decide) ?_
            exact W.iret (v := (5 : Int32)) hx hb hr (fun t ht hW => ⟨_, rfl, (by unfold x_faultOfRod; rw [if_neg c_1, if_neg c_2, if_neg c_3, if_pos c_4, if_neg c_5]), ht⟩) (fun _ h => by cases h) dX2_faultOfRod_58
        · skip
          refine lv_iload hx hb dX2_faultOfRod_41 (lv_at hl 0 rfl) ?_
          exact W.iret (v := (x_faultOfPair kd p0 p1 p2)) hx hb hr (fun t ht hW => ⟨_, rfl, (by unfold x_faultOfRod; rw [if_neg c_1, if_neg c_2, if_neg c_3, if_neg c_4]), ht⟩) (fun _ h => by cases h) dX2_faultOfRod_43
      · skip
        refine lv_iconst (v := 1) hx hb dX2_faultOfRod_25 (by decide) ?_
        exact W.iret (v := (1 : Int32)) hx hb hr (fun t ht hW => ⟨_, rfl, (by unfold x_faultOfRod; rw [if_neg c_1, if_neg c_2, if_pos c_3]), ht⟩) (fun _ h => by cases h) dX2_faultOfRod_26
  · skip
    refine lv_iconst (v := 2) hx hb dX2_faultOfRod_7 (by decide) ?_
    exact W.iret (v := (2 : Int32)) hx hb hr (fun t ht hW => ⟨_, rfl, (by unfold x_faultOfRod; rw [if_pos c_1]), ht⟩) (fun _ h => by cases h) dX2_faultOfRod_8
def x_faultOfSet (kd : Nat → Int32) (nd : Int32) (p0 : Int32) (p1 : Int64) : Int32 :=
  if (x_isDial nd p0) = 0 then (1 : Int32)
  else if (n_isOfKind (kd p0.toNatClampNeg) p1) = 0 then (3 : Int32)
    else (0 : Int32)
set_option maxHeartbeats 4000000 in
set_option maxRecDepth 100000 in
theorem c_X2_faultOfSet (l : Launch) (dC : Nat → ClassId) (dI : Nat → Nat → Nat) (cI cJ cZ : ClassId) (a : Nat → Nat) (kd : Nat → Int32) (lo : Nat → Int64) (hi : Nat → Int64) (vl : Nat → Int64) (nd : Int32) (so : Nat → Int32) (fr : Nat → Int32) (tg : Nat → Int32) (gn : Nat → Int32) (nr : Int32) (mo : Int32) (ma : Int32) (fa : Int32) (sv : Nat → Int64) (sd : Nat → Int32) (se : Int32) (sh : Int32) (p0 : Int32) (p1 : Int64) (hn : nd ≤ 16) : Met l yX2_faultOfSet wsX2_faultOfSet ({ frames := 1, cells := 0, slots := 0, locals := 23 }) (va_Pc [.ref (a 0), .int p0, .long p1] (fun U => va_P (dC, dI) vwCl (wX cI cJ cZ a kd lo hi vl nd so fr tg gn nr mo ma fa sv sd se sh) U.heap ∧ va_K (dC, dI) vwCl (tA cI cJ cZ) U)) (vp_Si (fun r => r = x_faultOfSet kd nd p0 p1)) 0 0 (fun _ => False) := by
  refine Met.ofW (cc := cX2_faultOfSet) (maxL := 4) (ret := (some .int)) (by decide) rfl ?_
  intro p e s m args below meth c s₁ B hml hv
  obtain ⟨rfl, hP, hK⟩ := hv
  have hx := B.exec
  have hb := B.bytes
  have hr := B.returns
  have hts := atoms_spec (ws := wsX2_faultOfSet) B.pre
  have hown : s.vm.findClass RX2 = some m.cls := findClass_of_methodNamed B.named
  have hlocks := B.notSynchronized
  have h_inX2 : ∀ w ∈ wsX20, w ∈ wsX2_faultOfSet := fun _ h => List.mem_cons_of_mem _ (List.mem_append_right _ h)
  have k_0 := hts (.fieldLink RX2 9 "DetentCabinet" "kinds" "[I") (by decide +kernel)
  have hl := lv_entry ([.ref (a 0), .int p0, .long p1]) (n := 4) (Nat.le_of_ble_eq_true rfl)
  rw [lg_entry_eq]
  generalize (lg_sl ([.ref (a 0), .int p0, .long p1]) ++ List.replicate (4 - (lg_sl ([.ref (a 0), .int p0, .long p1])).length) Slot.unset).toArray = ls at hl ⊢
  have hl : lv_has ls 4 [(0, .ref (a 0)), (1, .int p0), (2, .long p1)] := hl
  refine lv_aload_n hx hb dX2_faultOfSet_0 rfl (lv_at hl 0 rfl) ?_
  refine lv_iload_n hx hb dX2_faultOfSet_1 rfl (lv_at hl 1 rfl) ?_
  refine cs_i (W.runV (As := [.int p0]) (rest := []) ⟨hx, hb, hml, hown, hts⟩ (c_X2_isDial l dC dI cI cJ cZ a kd lo hi vl nd so fr tg gn nr mo ma fa sv sd se sh p0 ) (cwV 1 hts gX2_faultOfSet_X2_isDial rfl rfl rfl (by decide +kernel) ⟨Nat.le_of_ble_eq_true rfl, Nat.le_of_ble_eq_true rfl⟩) (fb_v hK hP (va_recv hK hP (ci := 1) (q0 := 0) rfl rfl)) rfl rfl hl.1 rfl (lv_room (Nat.le_of_ble_eq_true rfl)) dX2_faultOfSet_2 ⟨Nat.zero_le _, Nat.zero_le _⟩) ?_
  refine lv_if_ne (tgt := 10) hx hb dX2_faultOfSet_5 (by decide) (fun c_1 => ?_) (fun c_1 => ?_)
  · skip
    refine lv_aload_n hx hb dX2_faultOfSet_10 rfl (lv_at hl 0 rfl) ?_
    refine va_get (D := (dC, dI)) (ci := 1) (v := .ref (a 1)) (C := RX2) (T := TX2) (N := 14) hx hb hts h_inX2 hown hK hP 0 rfl rfl 0 (by decide) k_0 (fun _ h9 => h9) rfl dX2_faultOfSet_11 ?_
    refine lv_iload_n hx hb dX2_faultOfSet_14 rfl (lv_at hl 1 rfl) ?_
    refine va_iald hx hb hK hP 1 0 rfl rfl (in_d hn (by assumption)) dX2_faultOfSet_15 ?_
    refine lv_lload_n hx hb dX2_faultOfSet_16 rfl (lv_at hl 2 rfl) ?_
    refine cs_i (W.runS (As := [.int (kd p0.toNatClampNeg), .long p1]) (rest := []) ⟨hx, hb, hml, hown, hts⟩ (c_X0_isOfKind l (kd p0.toNatClampNeg) p1 ) (va_cwS 2 hts gX2_faultOfSet_X0_isOfKind rfl rfl rfl (by decide +kernel) ⟨Nat.le_of_ble_eq_true rfl, Nat.le_of_ble_eq_true rfl⟩) fb_s rfl rfl hl.1 rfl (lv_room (Nat.le_of_ble_eq_true rfl)) dX2_faultOfSet_17 ⟨Nat.zero_le _, Nat.zero_le _⟩) ?_
    refine lv_if_eq (tgt := 27) hx hb dX2_faultOfSet_20 (by decide) (fun c_2 => ?_) (fun c_2 => ?_)
    · skip
      refine lv_iconst (v := 3) hx hb dX2_faultOfSet_27 (by decide) ?_
      exact W.iret (v := (3 : Int32)) hx hb hr (fun t ht hW => ⟨_, rfl, (by unfold x_faultOfSet; rw [if_neg c_1, if_pos c_2]), ht⟩) (fun _ h => by cases h) dX2_faultOfSet_28
    · skip
      refine lv_iconst (v := 0) hx hb dX2_faultOfSet_23 (by decide) ?_
      refine lv_goto (tgt := 28) hx hb dX2_faultOfSet_24 (by decide) ?_
      exact W.iret (v := (0 : Int32)) hx hb hr (fun t ht hW => ⟨_, rfl, (by unfold x_faultOfSet; rw [if_neg c_1, if_neg c_2]), ht⟩) (fun _ h => by cases h) dX2_faultOfSet_28
  · skip
    refine lv_iconst (v := 1) hx hb dX2_faultOfSet_8 (by decide) ?_
    exact W.iret (v := (1 : Int32)) hx hb hr (fun t ht hW => ⟨_, rfl, (by unfold x_faultOfSet; rw [if_pos c_1]), ht⟩) (fun _ h => by cases h) dX2_faultOfSet_9
def x_faultOfTurn (kd : Nat → Int32) (nd : Int32) (p0 : Int32) (p1 : Int32) : Int32 :=
  if (x_isDial nd p0) = 0 then (1 : Int32)
  else if (n_isReal (kd p0.toNatClampNeg)) = 0 then (if p1 < 0 then (2 : Int32)
      else if p1 ≤ (0 : Int32) then (0 : Int32)
        else (2 : Int32))
    else if p1 < 0 then (2 : Int32)
      else if p1 ≤ (4 : Int32) then (0 : Int32)
        else (2 : Int32)
set_option maxHeartbeats 4000000 in
set_option maxRecDepth 100000 in
theorem c_X2_faultOfTurn (l : Launch) (dC : Nat → ClassId) (dI : Nat → Nat → Nat) (cI cJ cZ : ClassId) (a : Nat → Nat) (kd : Nat → Int32) (lo : Nat → Int64) (hi : Nat → Int64) (vl : Nat → Int64) (nd : Int32) (so : Nat → Int32) (fr : Nat → Int32) (tg : Nat → Int32) (gn : Nat → Int32) (nr : Int32) (mo : Int32) (ma : Int32) (fa : Int32) (sv : Nat → Int64) (sd : Nat → Int32) (se : Int32) (sh : Int32) (p0 : Int32) (p1 : Int32) (hn : nd ≤ 16) : Met l yX2_faultOfTurn wsX2_faultOfTurn ({ frames := 1, cells := 0, slots := 0, locals := 21 }) (va_Pc [.ref (a 0), .int p0, .int p1] (fun U => va_P (dC, dI) vwCl (wX cI cJ cZ a kd lo hi vl nd so fr tg gn nr mo ma fa sv sd se sh) U.heap ∧ va_K (dC, dI) vwCl (tA cI cJ cZ) U)) (vp_Si (fun r => r = x_faultOfTurn kd nd p0 p1)) 0 0 (fun _ => False) := by
  refine Met.ofW (cc := cX2_faultOfTurn) (maxL := 4) (ret := (some .int)) (by decide) rfl ?_
  intro p e s m args below meth c s₁ B hml hv
  obtain ⟨rfl, hP, hK⟩ := hv
  have hx := B.exec
  have hb := B.bytes
  have hr := B.returns
  have hts := atoms_spec (ws := wsX2_faultOfTurn) B.pre
  have hown : s.vm.findClass RX2 = some m.cls := findClass_of_methodNamed B.named
  have hlocks := B.notSynchronized
  have h_inX2 : ∀ w ∈ wsX20, w ∈ wsX2_faultOfTurn := fun _ h => List.mem_cons_of_mem _ (List.mem_append_right _ h)
  have k_0 := hts (.fieldLink RX2 9 "DetentCabinet" "kinds" "[I") (by decide +kernel)
  have hl := lv_entry ([.ref (a 0), .int p0, .int p1]) (n := 4) (Nat.le_of_ble_eq_true rfl)
  rw [lg_entry_eq]
  generalize (lg_sl ([.ref (a 0), .int p0, .int p1]) ++ List.replicate (4 - (lg_sl ([.ref (a 0), .int p0, .int p1])).length) Slot.unset).toArray = ls at hl ⊢
  have hl : lv_has ls 4 [(0, .ref (a 0)), (1, .int p0), (2, .int p1)] := hl
  refine lv_aload_n hx hb dX2_faultOfTurn_0 rfl (lv_at hl 0 rfl) ?_
  refine lv_iload_n hx hb dX2_faultOfTurn_1 rfl (lv_at hl 1 rfl) ?_
  refine cs_i (W.runV (As := [.int p0]) (rest := []) ⟨hx, hb, hml, hown, hts⟩ (c_X2_isDial l dC dI cI cJ cZ a kd lo hi vl nd so fr tg gn nr mo ma fa sv sd se sh p0 ) (cwV 1 hts gX2_faultOfTurn_X2_isDial rfl rfl rfl (by decide +kernel) ⟨Nat.le_of_ble_eq_true rfl, Nat.le_of_ble_eq_true rfl⟩) (fb_v hK hP (va_recv hK hP (ci := 1) (q0 := 0) rfl rfl)) rfl rfl hl.1 rfl (lv_room (Nat.le_of_ble_eq_true rfl)) dX2_faultOfTurn_2 ⟨Nat.zero_le _, Nat.zero_le _⟩) ?_
  refine lv_if_ne (tgt := 10) hx hb dX2_faultOfTurn_5 (by decide) (fun c_1 => ?_) (fun c_1 => ?_)
  · skip
    refine lv_aload_n hx hb dX2_faultOfTurn_10 rfl (lv_at hl 0 rfl) ?_
    refine va_get (D := (dC, dI)) (ci := 1) (v := .ref (a 1)) (C := RX2) (T := TX2) (N := 14) hx hb hts h_inX2 hown hK hP 0 rfl rfl 0 (by decide) k_0 (fun _ h9 => h9) rfl dX2_faultOfTurn_11 ?_
    refine lv_iload_n hx hb dX2_faultOfTurn_14 rfl (lv_at hl 1 rfl) ?_
    refine va_iald hx hb hK hP 1 0 rfl rfl (in_d hn (by assumption)) dX2_faultOfTurn_15 ?_
    refine cs_i (W.runS (As := [.int (kd p0.toNatClampNeg)]) (rest := []) ⟨hx, hb, hml, hown, hts⟩ (c_X0_isReal l (kd p0.toNatClampNeg) ) (va_cwS 1 hts gX2_faultOfTurn_X0_isReal rfl rfl rfl (by decide +kernel) ⟨Nat.le_of_ble_eq_true rfl, Nat.le_of_ble_eq_true rfl⟩) fb_s rfl rfl hl.1 rfl (lv_room (Nat.le_of_ble_eq_true rfl)) dX2_faultOfTurn_16 ⟨Nat.zero_le _, Nat.zero_le _⟩) ?_
    refine lv_if_eq (tgt := 26) hx hb dX2_faultOfTurn_19 (by decide) (fun c_2 => ?_) (fun c_2 => ?_)
    · skip
      refine lv_iconst (v := 0) hx hb dX2_faultOfTurn_26 (by decide) ?_
      refine lv_istore_n (lv' := [(3, .int (0 : Int32)), (0, .ref (a 0)), (1, .int p0), (2, .int p1)]) hx hb dX2_faultOfTurn_27 rfl hl (by decide) rfl (fun ls hl => ?_)
      refine lv_iload_n hx hb dX2_faultOfTurn_28 rfl (lv_at hl 3 rfl) ?_
      refine lv_if_lt (tgt := 37) hx hb dX2_faultOfTurn_29 (by decide) (fun c_3 => ?_) (fun c_3 => ?_)
      · skip
        refine lv_iconst (v := 2) hx hb dX2_faultOfTurn_37 (by decide) ?_
        refine lv_goto (tgt := 42) hx hb dX2_faultOfTurn_38 (by decide) ?_
        exact W.iret (v := (2 : Int32)) hx hb hr (fun t ht hW => ⟨_, rfl, (by unfold x_faultOfTurn; rw [if_neg c_1, if_pos c_2, if_pos c_3]), ht⟩) (fun _ h => by cases h) dX2_faultOfTurn_42
      · skip
        refine lv_iload_n hx hb dX2_faultOfTurn_32 rfl (lv_at hl 3 rfl) ?_
        refine lv_iload_n hx hb dX2_faultOfTurn_33 rfl (lv_at hl 0 rfl) ?_
        refine lv_icmp_le (tgt := 41) hx hb dX2_faultOfTurn_34 (by decide) (fun c_4 => ?_) (fun c_4 => ?_)
        · skip
          refine lv_iconst (v := 0) hx hb dX2_faultOfTurn_41 (by decide) ?_
          exact W.iret (v := (0 : Int32)) hx hb hr (fun t ht hW => ⟨_, rfl, (by unfold x_faultOfTurn; rw [if_neg c_1, if_pos c_2, if_neg c_3, if_pos c_4]), ht⟩) (fun _ h => by cases h) dX2_faultOfTurn_42
        · skip
          refine lv_iconst (v := 2) hx hb dX2_faultOfTurn_37 (by decide) ?_
          refine lv_goto (tgt := 42) hx hb dX2_faultOfTurn_38 (by decide) ?_
          exact W.iret (v := (2 : Int32)) hx hb hr (fun t ht hW => ⟨_, rfl, (by unfold x_faultOfTurn; rw [if_neg c_1, if_pos c_2, if_neg c_3, if_neg c_4]), ht⟩) (fun _ h => by cases h) dX2_faultOfTurn_42
    · skip
      refine lv_iconst (v := 4) hx hb dX2_faultOfTurn_22 (by decide) ?_
      refine lv_goto (tgt := 27) hx hb dX2_faultOfTurn_23 (by decide) ?_
      refine lv_istore_n (lv' := [(3, .int (4 : Int32)), (0, .ref (a 0)), (1, .int p0), (2, .int p1)]) hx hb dX2_faultOfTurn_27 rfl hl (by decide) rfl (fun ls hl => ?_)
      refine lv_iload_n hx hb dX2_faultOfTurn_28 rfl (lv_at hl 3 rfl) ?_
      refine lv_if_lt (tgt := 37) hx hb dX2_faultOfTurn_29 (by decide) (fun c_5 => ?_) (fun c_5 => ?_)
      · skip
        refine lv_iconst (v := 2) hx hb dX2_faultOfTurn_37 (by decide) ?_
        refine lv_goto (tgt := 42) hx hb dX2_faultOfTurn_38 (by decide) ?_
        exact W.iret (v := (2 : Int32)) hx hb hr (fun t ht hW => ⟨_, rfl, (by unfold x_faultOfTurn; rw [if_neg c_1, if_neg c_2, if_pos c_5]), ht⟩) (fun _ h => by cases h) dX2_faultOfTurn_42
      · skip
        refine lv_iload_n hx hb dX2_faultOfTurn_32 rfl (lv_at hl 3 rfl) ?_
        refine lv_iload_n hx hb dX2_faultOfTurn_33 rfl (lv_at hl 0 rfl) ?_
        refine lv_icmp_le (tgt := 41) hx hb dX2_faultOfTurn_34 (by decide) (fun c_6 => ?_) (fun c_6 => ?_)
        · skip
          refine lv_iconst (v := 0) hx hb dX2_faultOfTurn_41 (by decide) ?_
          exact W.iret (v := (0 : Int32)) hx hb hr (fun t ht hW => ⟨_, rfl, (by unfold x_faultOfTurn; rw [if_neg c_1, if_neg c_2, if_neg c_5, if_pos c_6]), ht⟩) (fun _ h => by cases h) dX2_faultOfTurn_42
        · skip
          refine lv_iconst (v := 2) hx hb dX2_faultOfTurn_37 (by decide) ?_
          refine lv_goto (tgt := 42) hx hb dX2_faultOfTurn_38 (by decide) ?_
          exact W.iret (v := (2 : Int32)) hx hb hr (fun t ht hW => ⟨_, rfl, (by unfold x_faultOfTurn; rw [if_neg c_1, if_neg c_2, if_neg c_5, if_neg c_6]), ht⟩) (fun _ h => by cases h) dX2_faultOfTurn_42
  · skip
    refine lv_iconst (v := 1) hx hb dX2_faultOfTurn_8 (by decide) ?_
    exact W.iret (v := (1 : Int32)) hx hb hr (fun t ht hW => ⟨_, rfl, (by unfold x_faultOfTurn; rw [if_pos c_1]), ht⟩) (fun _ h => by cases h) dX2_faultOfTurn_9
def x_faultOfTake (kd : Nat → Int32) (nd : Int32) (p0 : Int32) (p1 : Int32) (p2 : Int32) : Int32 :=
  if (x_isDial nd p0) = 0 then (1 : Int32)
  else if (x_isDial nd p1) = 0 then (1 : Int32)
    else if (x_isSort p2) = 0 then (2 : Int32)
      else (x_faultOfPair kd p2 p1 p0)
set_option maxHeartbeats 4000000 in
set_option maxRecDepth 100000 in
theorem c_X2_faultOfTake (l : Launch) (dC : Nat → ClassId) (dI : Nat → Nat → Nat) (cI cJ cZ : ClassId) (a : Nat → Nat) (kd : Nat → Int32) (lo : Nat → Int64) (hi : Nat → Int64) (vl : Nat → Int64) (nd : Int32) (so : Nat → Int32) (fr : Nat → Int32) (tg : Nat → Int32) (gn : Nat → Int32) (nr : Int32) (mo : Int32) (ma : Int32) (fa : Int32) (sv : Nat → Int64) (sd : Nat → Int32) (se : Int32) (sh : Int32) (p0 : Int32) (p1 : Int32) (p2 : Int32) (hn : nd ≤ 16) : Met l yX2_faultOfTake wsX2_faultOfTake ({ frames := 2, cells := 0, slots := 0, locals := 43 }) (va_Pc [.ref (a 0), .int p0, .int p1, .int p2] (fun U => va_P (dC, dI) vwCl (wX cI cJ cZ a kd lo hi vl nd so fr tg gn nr mo ma fa sv sd se sh) U.heap ∧ va_K (dC, dI) vwCl (tA cI cJ cZ) U)) (vp_Si (fun r => r = x_faultOfTake kd nd p0 p1 p2)) 0 0 (fun _ => False) := by
  refine Met.ofW (cc := cX2_faultOfTake) (maxL := 4) (ret := (some .int)) (by decide) rfl ?_
  intro p e s m args below meth c s₁ B hml hv
  obtain ⟨rfl, hP, hK⟩ := hv
  have hx := B.exec
  have hb := B.bytes
  have hr := B.returns
  have hts := atoms_spec (ws := wsX2_faultOfTake) B.pre
  have hown : s.vm.findClass RX2 = some m.cls := findClass_of_methodNamed B.named
  have hlocks := B.notSynchronized
  have hl := lv_entry ([.ref (a 0), .int p0, .int p1, .int p2]) (n := 4) (Nat.le_of_ble_eq_true rfl)
  rw [lg_entry_eq]
  generalize (lg_sl ([.ref (a 0), .int p0, .int p1, .int p2]) ++ List.replicate (4 - (lg_sl ([.ref (a 0), .int p0, .int p1, .int p2])).length) Slot.unset).toArray = ls at hl ⊢
  have hl : lv_has ls 4 [(0, .ref (a 0)), (1, .int p0), (2, .int p1), (3, .int p2)] := hl
  refine lv_aload_n hx hb dX2_faultOfTake_0 rfl (lv_at hl 0 rfl) ?_
  refine lv_iload_n hx hb dX2_faultOfTake_1 rfl (lv_at hl 1 rfl) ?_
  refine cs_i (W.runV (As := [.int p0]) (rest := []) ⟨hx, hb, hml, hown, hts⟩ (c_X2_isDial l dC dI cI cJ cZ a kd lo hi vl nd so fr tg gn nr mo ma fa sv sd se sh p0 ) (cwV 1 hts gX2_faultOfTake_X2_isDial rfl rfl rfl (by decide +kernel) ⟨Nat.le_of_ble_eq_true rfl, Nat.le_of_ble_eq_true rfl⟩) (fb_v hK hP (va_recv hK hP (ci := 1) (q0 := 0) rfl rfl)) rfl rfl hl.1 rfl (lv_room (Nat.le_of_ble_eq_true rfl)) dX2_faultOfTake_2 ⟨Nat.zero_le _, Nat.zero_le _⟩) ?_
  refine lv_if_eq (tgt := 16) hx hb dX2_faultOfTake_5 (by decide) (fun c_1 => ?_) (fun c_1 => ?_)
  · skip
    refine lv_iconst (v := 1) hx hb dX2_faultOfTake_16 (by decide) ?_
    exact W.iret (v := (1 : Int32)) hx hb hr (fun t ht hW => ⟨_, rfl, (by unfold x_faultOfTake; rw [if_pos c_1]), ht⟩) (fun _ h => by cases h) dX2_faultOfTake_17
  · skip
    refine lv_aload_n hx hb dX2_faultOfTake_8 rfl (lv_at hl 0 rfl) ?_
    refine lv_iload_n hx hb dX2_faultOfTake_9 rfl (lv_at hl 2 rfl) ?_
    refine cs_i (W.runV (As := [.int p1]) (rest := []) ⟨hx, hb, hml, hown, hts⟩ (c_X2_isDial l dC dI cI cJ cZ a kd lo hi vl nd so fr tg gn nr mo ma fa sv sd se sh p1 ) (cwV 1 hts gX2_faultOfTake_X2_isDial rfl rfl rfl (by decide +kernel) ⟨Nat.le_of_ble_eq_true rfl, Nat.le_of_ble_eq_true rfl⟩) (fb_v hK hP (va_recv hK hP (ci := 1) (q0 := 0) rfl rfl)) rfl rfl hl.1 rfl (lv_room (Nat.le_of_ble_eq_true rfl)) dX2_faultOfTake_10 ⟨Nat.zero_le _, Nat.zero_le _⟩) ?_
    refine lv_if_ne (tgt := 18) hx hb dX2_faultOfTake_13 (by decide) (fun c_2 => ?_) (fun c_2 => ?_)
    · skip
      refine lv_iload_n hx hb dX2_faultOfTake_18 rfl (lv_at hl 3 rfl) ?_
      refine cs_i (W.runS (As := [.int p2]) (rest := []) ⟨hx, hb, hml, hown, hts⟩ (c_X2_isSort l p2 ) (va_cwS 1 hts gX2_faultOfTake_X2_isSort rfl rfl rfl (by decide +kernel) ⟨Nat.le_of_ble_eq_true rfl, Nat.le_of_ble_eq_true rfl⟩) fb_s rfl rfl hl.1 rfl (lv_room (Nat.le_of_ble_eq_true rfl)) dX2_faultOfTake_19 ⟨Nat.zero_le _, Nat.zero_le _⟩) ?_
      refine lv_if_ne (tgt := 27) hx hb dX2_faultOfTake_22 (by decide) (fun c_3 => ?_) (fun c_3 => ?_)
      · skip
        refine lv_aload_n hx hb dX2_faultOfTake_27 rfl (lv_at hl 0 rfl) ?_
        refine lv_iload_n hx hb dX2_faultOfTake_28 rfl (lv_at hl 3 rfl) ?_
        refine lv_iload_n hx hb dX2_faultOfTake_29 rfl (lv_at hl 2 rfl) ?_
        refine lv_iload_n hx hb dX2_faultOfTake_30 rfl (lv_at hl 1 rfl) ?_
        refine cs_i (W.runV (As := [.int p2, .int p1, .int p0]) (rest := []) ⟨hx, hb, hml, hown, hts⟩ (c_X2_faultOfPair l dC dI cI cJ cZ a kd lo hi vl nd so fr tg gn nr mo ma fa sv sd se sh p2 p1 p0 (in_d hn (by assumption)) (in_d hn (by assumption))) (cwV 3 hts gX2_faultOfTake_X2_faultOfPair rfl rfl rfl (by decide +kernel) ⟨Nat.le_of_ble_eq_true rfl, Nat.le_of_ble_eq_true rfl⟩) (fb_v hK hP (va_recv hK hP (ci := 1) (q0 := 0) rfl rfl)) rfl rfl hl.1 rfl (lv_room (Nat.le_of_ble_eq_true rfl)) dX2_faultOfTake_31 ⟨Nat.zero_le _, Nat.zero_le _⟩) ?_
        exact W.iret (v := (x_faultOfPair kd p2 p1 p0)) hx hb hr (fun t ht hW => ⟨_, rfl, (by unfold x_faultOfTake; rw [if_neg c_1, if_neg c_2, if_neg c_3]), ht⟩) (fun _ h => by cases h) dX2_faultOfTake_34
      · skip
        refine lv_iconst (v := 2) hx hb dX2_faultOfTake_25 (by decide) ?_
        exact W.iret (v := (2 : Int32)) hx hb hr (fun t ht hW => ⟨_, rfl, (by unfold x_faultOfTake; rw [if_neg c_1, if_neg c_2, if_pos c_3]), ht⟩) (fun _ h => by cases h) dX2_faultOfTake_26
    · skip
      refine lv_iconst (v := 1) hx hb dX2_faultOfTake_16 (by decide) ?_
      exact W.iret (v := (1 : Int32)) hx hb hr (fun t ht hW => ⟨_, rfl, (by unfold x_faultOfTake; rw [if_neg c_1, if_pos c_2]), ht⟩) (fun _ h => by cases h) dX2_faultOfTake_17
def x_faultOfOrder (kd : Nat → Int32) (nd : Int32) (p0 : Int32) (p1 : Int32) : Int32 :=
  if (x_isDial nd p0) = 0 then (1 : Int32)
  else if (x_isDial nd p1) = 0 then (1 : Int32)
    else if (kd p0.toNatClampNeg) = (kd p1.toNatClampNeg) then (0 : Int32)
      else (6 : Int32)
set_option maxHeartbeats 4000000 in
set_option maxRecDepth 100000 in
theorem c_X2_faultOfOrder (l : Launch) (dC : Nat → ClassId) (dI : Nat → Nat → Nat) (cI cJ cZ : ClassId) (a : Nat → Nat) (kd : Nat → Int32) (lo : Nat → Int64) (hi : Nat → Int64) (vl : Nat → Int64) (nd : Int32) (so : Nat → Int32) (fr : Nat → Int32) (tg : Nat → Int32) (gn : Nat → Int32) (nr : Int32) (mo : Int32) (ma : Int32) (fa : Int32) (sv : Nat → Int64) (sd : Nat → Int32) (se : Int32) (sh : Int32) (p0 : Int32) (p1 : Int32) (hn : nd ≤ 16) : Met l yX2_faultOfOrder wsX2_faultOfOrder ({ frames := 1, cells := 0, slots := 0, locals := 21 }) (va_Pc [.ref (a 0), .int p0, .int p1] (fun U => va_P (dC, dI) vwCl (wX cI cJ cZ a kd lo hi vl nd so fr tg gn nr mo ma fa sv sd se sh) U.heap ∧ va_K (dC, dI) vwCl (tA cI cJ cZ) U)) (vp_Si (fun r => r = x_faultOfOrder kd nd p0 p1)) 0 0 (fun _ => False) := by
  refine Met.ofW (cc := cX2_faultOfOrder) (maxL := 3) (ret := (some .int)) (by decide) rfl ?_
  intro p e s m args below meth c s₁ B hml hv
  obtain ⟨rfl, hP, hK⟩ := hv
  have hx := B.exec
  have hb := B.bytes
  have hr := B.returns
  have hts := atoms_spec (ws := wsX2_faultOfOrder) B.pre
  have hown : s.vm.findClass RX2 = some m.cls := findClass_of_methodNamed B.named
  have hlocks := B.notSynchronized
  have h_inX2 : ∀ w ∈ wsX20, w ∈ wsX2_faultOfOrder := fun _ h => List.mem_cons_of_mem _ (List.mem_append_right _ h)
  have k_0 := hts (.fieldLink RX2 9 "DetentCabinet" "kinds" "[I") (by decide +kernel)
  have hl := lv_entry ([.ref (a 0), .int p0, .int p1]) (n := 3) (Nat.le_of_ble_eq_true rfl)
  rw [lg_entry_eq]
  generalize (lg_sl ([.ref (a 0), .int p0, .int p1]) ++ List.replicate (3 - (lg_sl ([.ref (a 0), .int p0, .int p1])).length) Slot.unset).toArray = ls at hl ⊢
  have hl : lv_has ls 3 [(0, .ref (a 0)), (1, .int p0), (2, .int p1)] := hl
  refine lv_aload_n hx hb dX2_faultOfOrder_0 rfl (lv_at hl 0 rfl) ?_
  refine lv_iload_n hx hb dX2_faultOfOrder_1 rfl (lv_at hl 1 rfl) ?_
  refine cs_i (W.runV (As := [.int p0]) (rest := []) ⟨hx, hb, hml, hown, hts⟩ (c_X2_isDial l dC dI cI cJ cZ a kd lo hi vl nd so fr tg gn nr mo ma fa sv sd se sh p0 ) (cwV 1 hts gX2_faultOfOrder_X2_isDial rfl rfl rfl (by decide +kernel) ⟨Nat.le_of_ble_eq_true rfl, Nat.le_of_ble_eq_true rfl⟩) (fb_v hK hP (va_recv hK hP (ci := 1) (q0 := 0) rfl rfl)) rfl rfl hl.1 rfl (lv_room (Nat.le_of_ble_eq_true rfl)) dX2_faultOfOrder_2 ⟨Nat.zero_le _, Nat.zero_le _⟩) ?_
  refine lv_if_eq (tgt := 16) hx hb dX2_faultOfOrder_5 (by decide) (fun c_1 => ?_) (fun c_1 => ?_)
  · skip
    refine lv_iconst (v := 1) hx hb dX2_faultOfOrder_16 (by decide) ?_
    exact W.iret (v := (1 : Int32)) hx hb hr (fun t ht hW => ⟨_, rfl, (by unfold x_faultOfOrder; rw [if_pos c_1]), ht⟩) (fun _ h => by cases h) dX2_faultOfOrder_17
  · skip
    refine lv_aload_n hx hb dX2_faultOfOrder_8 rfl (lv_at hl 0 rfl) ?_
    refine lv_iload_n hx hb dX2_faultOfOrder_9 rfl (lv_at hl 2 rfl) ?_
    refine cs_i (W.runV (As := [.int p1]) (rest := []) ⟨hx, hb, hml, hown, hts⟩ (c_X2_isDial l dC dI cI cJ cZ a kd lo hi vl nd so fr tg gn nr mo ma fa sv sd se sh p1 ) (cwV 1 hts gX2_faultOfOrder_X2_isDial rfl rfl rfl (by decide +kernel) ⟨Nat.le_of_ble_eq_true rfl, Nat.le_of_ble_eq_true rfl⟩) (fb_v hK hP (va_recv hK hP (ci := 1) (q0 := 0) rfl rfl)) rfl rfl hl.1 rfl (lv_room (Nat.le_of_ble_eq_true rfl)) dX2_faultOfOrder_10 ⟨Nat.zero_le _, Nat.zero_le _⟩) ?_
    refine lv_if_ne (tgt := 18) hx hb dX2_faultOfOrder_13 (by decide) (fun c_2 => ?_) (fun c_2 => ?_)
    · skip
      refine lv_aload_n hx hb dX2_faultOfOrder_18 rfl (lv_at hl 0 rfl) ?_
      refine va_get (D := (dC, dI)) (ci := 1) (v := .ref (a 1)) (C := RX2) (T := TX2) (N := 14) hx hb hts h_inX2 hown hK hP 0 rfl rfl 0 (by decide) k_0 (fun _ h9 => h9) rfl dX2_faultOfOrder_19 ?_
      refine lv_iload_n hx hb dX2_faultOfOrder_22 rfl (lv_at hl 1 rfl) ?_
      refine va_iald hx hb hK hP 1 0 rfl rfl (in_d hn (by assumption)) dX2_faultOfOrder_23 ?_
      refine lv_aload_n hx hb dX2_faultOfOrder_24 rfl (lv_at hl 0 rfl) ?_
      refine va_get (D := (dC, dI)) (ci := 1) (v := .ref (a 1)) (C := RX2) (T := TX2) (N := 14) hx hb hts h_inX2 hown hK hP 0 rfl rfl 0 (by decide) k_0 (fun _ h9 => h9) rfl dX2_faultOfOrder_25 ?_
      refine lv_iload_n hx hb dX2_faultOfOrder_28 rfl (lv_at hl 2 rfl) ?_
      refine va_iald hx hb hK hP 1 0 rfl rfl (in_d hn (by assumption)) dX2_faultOfOrder_29 ?_
      refine lv_icmp_eq (tgt := 38) hx hb dX2_faultOfOrder_30 (by decide) (fun c_3 => ?_) (fun c_3 => ?_)
      · skip
        refine lv_iconst (v := 0) hx hb dX2_faultOfOrder_38 (by decide) ?_
        exact W.iret (v := (0 : Int32)) hx hb hr (fun t ht hW => ⟨_, rfl, (by unfold x_faultOfOrder; rw [if_neg c_1, if_neg c_2, if_pos c_3]), ht⟩) (fun _ h => by cases h) dX2_faultOfOrder_39
      · skip
        refine lv_bipush (v := 6) hx hb dX2_faultOfOrder_33 (by decide) ?_
        refine lv_goto (tgt := 39) hx hb dX2_faultOfOrder_35 (by decide) ?_
        exact W.iret (v := (6 : Int32)) hx hb hr (fun t ht hW => ⟨_, rfl, (by unfold x_faultOfOrder; rw [if_neg c_1, if_neg c_2, if_neg c_3]), ht⟩) (fun _ h => by cases h) dX2_faultOfOrder_39
    · skip
      refine lv_iconst (v := 1) hx hb dX2_faultOfOrder_16 (by decide) ?_
      exact W.iret (v := (1 : Int32)) hx hb hr (fun t ht hW => ⟨_, rfl, (by unfold x_faultOfOrder; rw [if_neg c_1, if_pos c_2]), ht⟩) (fun _ h => by cases h) dX2_faultOfOrder_17
def x_gift (kd : Nat → Int32) (vl : Nat → Int64) (p0 : Int32) (p1 : Int32) (p2 : Int32) : Int64 :=
  if p0 = 0 then (n_greater (kd p1.toNatClampNeg) (vl p1.toNatClampNeg) (vl p2.toNatClampNeg))
  else if p0 = 1 then (n_less (kd p1.toNatClampNeg) (vl p1.toNatClampNeg) (vl p2.toNatClampNeg))
    else if p0 = 2 then (n_signed (kd p1.toNatClampNeg) (vl p2.toNatClampNeg) (vl p1.toNatClampNeg))
      else (n_sizeOf (kd p1.toNatClampNeg) (vl p1.toNatClampNeg))
set_option maxHeartbeats 4000000 in
set_option maxRecDepth 100000 in
theorem c_X2_gift (l : Launch) (dC : Nat → ClassId) (dI : Nat → Nat → Nat) (cI cJ cZ : ClassId) (a : Nat → Nat) (kd : Nat → Int32) (lo : Nat → Int64) (hi : Nat → Int64) (vl : Nat → Int64) (nd : Int32) (so : Nat → Int32) (fr : Nat → Int32) (tg : Nat → Int32) (gn : Nat → Int32) (nr : Int32) (mo : Int32) (ma : Int32) (fa : Int32) (sv : Nat → Int64) (sd : Nat → Int32) (se : Int32) (sh : Int32) (p0 : Int32) (p1 : Int32) (p2 : Int32) (hf : vp_in p1 16) (ht : vp_in p2 16) : Met l yX2_gift wsX2_gift ({ frames := 4, cells := 0, slots := 0, locals := 94 }) (va_Pc [.ref (a 0), .int p0, .int p1, .int p2] (fun U => va_P (dC, dI) vwCl (wX cI cJ cZ a kd lo hi vl nd so fr tg gn nr mo ma fa sv sd se sh) U.heap ∧ va_K (dC, dI) vwCl (tA cI cJ cZ) U)) (vp_Sl (fun r => r = x_gift kd vl p0 p1 p2)) 0 0 (fun _ => False) := by
  refine Met.ofW (cc := cX2_gift) (maxL := 5) (ret := (some .long)) (by decide) rfl ?_
  intro p e s m args below meth c s₁ B hml hv
  obtain ⟨rfl, hP, hK⟩ := hv
  have hx := B.exec
  have hb := B.bytes
  have hr := B.returns
  have hts := atoms_spec (ws := wsX2_gift) B.pre
  have hown : s.vm.findClass RX2 = some m.cls := findClass_of_methodNamed B.named
  have hlocks := B.notSynchronized
  have h_inX2 : ∀ w ∈ wsX20, w ∈ wsX2_gift := fun _ h => List.mem_cons_of_mem _ (List.mem_append_right _ h)
  have k_0 := hts (.fieldLink RX2 9 "DetentCabinet" "kinds" "[I") (by decide +kernel)
  have k_1 := hts (.fieldLink RX2 20 "DetentCabinet" "values" "[J") (by decide +kernel)
  have hl := lv_entry ([.ref (a 0), .int p0, .int p1, .int p2]) (n := 5) (Nat.le_of_ble_eq_true rfl)
  rw [lg_entry_eq]
  generalize (lg_sl ([.ref (a 0), .int p0, .int p1, .int p2]) ++ List.replicate (5 - (lg_sl ([.ref (a 0), .int p0, .int p1, .int p2])).length) Slot.unset).toArray = ls at hl ⊢
  have hl : lv_has ls 5 [(0, .ref (a 0)), (1, .int p0), (2, .int p1), (3, .int p2)] := hl
  refine lv_aload_n hx hb dX2_gift_0 rfl (lv_at hl 0 rfl) ?_
  refine va_get (D := (dC, dI)) (ci := 1) (v := .ref (a 1)) (C := RX2) (T := TX2) (N := 14) hx hb hts h_inX2 hown hK hP 0 rfl rfl 0 (by decide) k_0 (fun _ h9 => h9) rfl dX2_gift_1 ?_
  refine lv_iload_n hx hb dX2_gift_4 rfl (lv_at hl 2 rfl) ?_
  refine va_iald hx hb hK hP 1 0 rfl rfl (by assumption) dX2_gift_5 ?_
  refine lv_istore (lv' := [(4, .int (kd p1.toNatClampNeg)), (0, .ref (a 0)), (1, .int p0), (2, .int p1), (3, .int p2)]) hx hb dX2_gift_6 hl (by decide) rfl (fun ls hl => ?_)
  refine lv_iload_n hx hb dX2_gift_8 rfl (lv_at hl 2 rfl) ?_
  by_cases c_1 : p0 = 0
  · skip
    refine lv_tableIn (off := 27) (tgt := 36) hx hb dX2_gift_9 (by rw [c_1]; decide) (by rw [c_1]; decide) (by rw [c_1]; rfl) (by decide) ?_
    refine lv_iload hx hb dX2_gift_36 (lv_at hl 0 rfl) ?_
    refine lv_aload_n hx hb dX2_gift_38 rfl (lv_at hl 1 rfl) ?_
    refine va_get (D := (dC, dI)) (ci := 1) (v := .ref (a 4)) (C := RX2) (T := TX2) (N := 14) hx hb hts h_inX2 hown hK hP 0 rfl rfl 3 (by decide) k_1 (fun _ h9 => h9) rfl dX2_gift_39 ?_
    refine lv_iload_n hx hb dX2_gift_42 rfl (lv_at hl 3 rfl) ?_
    refine va_lald hx hb hK hP 4 1 rfl rfl (by assumption) dX2_gift_43 ?_
    refine lv_aload_n hx hb dX2_gift_44 rfl (lv_at hl 1 rfl) ?_
    refine va_get (D := (dC, dI)) (ci := 1) (v := .ref (a 4)) (C := RX2) (T := TX2) (N := 14) hx hb hts h_inX2 hown hK hP 0 rfl rfl 3 (by decide) k_1 (fun _ h9 => h9) rfl dX2_gift_45 ?_
    refine lv_iload_n hx hb dX2_gift_48 rfl (lv_at hl 4 rfl) ?_
    refine va_lald hx hb hK hP 4 1 rfl rfl (by assumption) dX2_gift_49 ?_
    refine cs_l (W.runS (As := [.int (kd p1.toNatClampNeg), .long (vl p1.toNatClampNeg), .long (vl p2.toNatClampNeg)]) (rest := []) ⟨hx, hb, hml, hown, hts⟩ (c_X0_greater l (kd p1.toNatClampNeg) (vl p1.toNatClampNeg) (vl p2.toNatClampNeg) ) (va_cwS 3 hts gX2_gift_X0_greater rfl rfl rfl (by decide +kernel) ⟨Nat.le_of_ble_eq_true rfl, Nat.le_of_ble_eq_true rfl⟩) fb_s rfl rfl hl.1 rfl (lv_room (Nat.le_of_ble_eq_true rfl)) dX2_gift_50 ⟨Nat.zero_le _, Nat.zero_le _⟩) ?_
    exact W.lret (v := (n_greater (kd p1.toNatClampNeg) (vl p1.toNatClampNeg) (vl p2.toNatClampNeg))) hx hb hr (fun t ht hW => ⟨_, rfl, (by unfold x_gift; rw [if_pos c_1]), ht⟩) (fun _ h => by cases h) dX2_gift_53
  · skip
    by_cases c_2 : p0 = 1
    · skip
      refine lv_tableIn (off := 45) (tgt := 54) hx hb dX2_gift_9 (by rw [c_2]; decide) (by rw [c_2]; decide) (by rw [c_2]; rfl) (by decide) ?_
      refine lv_iload hx hb dX2_gift_54 (lv_at hl 0 rfl) ?_
      refine lv_aload_n hx hb dX2_gift_56 rfl (lv_at hl 1 rfl) ?_
      refine va_get (D := (dC, dI)) (ci := 1) (v := .ref (a 4)) (C := RX2) (T := TX2) (N := 14) hx hb hts h_inX2 hown hK hP 0 rfl rfl 3 (by decide) k_1 (fun _ h9 => h9) rfl dX2_gift_57 ?_
      refine lv_iload_n hx hb dX2_gift_60 rfl (lv_at hl 3 rfl) ?_
      refine va_lald hx hb hK hP 4 1 rfl rfl (by assumption) dX2_gift_61 ?_
      refine lv_aload_n hx hb dX2_gift_62 rfl (lv_at hl 1 rfl) ?_
      refine va_get (D := (dC, dI)) (ci := 1) (v := .ref (a 4)) (C := RX2) (T := TX2) (N := 14) hx hb hts h_inX2 hown hK hP 0 rfl rfl 3 (by decide) k_1 (fun _ h9 => h9) rfl dX2_gift_63 ?_
      refine lv_iload_n hx hb dX2_gift_66 rfl (lv_at hl 4 rfl) ?_
      refine va_lald hx hb hK hP 4 1 rfl rfl (by assumption) dX2_gift_67 ?_
      refine cs_l (W.runS (As := [.int (kd p1.toNatClampNeg), .long (vl p1.toNatClampNeg), .long (vl p2.toNatClampNeg)]) (rest := []) ⟨hx, hb, hml, hown, hts⟩ (c_X0_less l (kd p1.toNatClampNeg) (vl p1.toNatClampNeg) (vl p2.toNatClampNeg) ) (va_cwS 3 hts gX2_gift_X0_less rfl rfl rfl (by decide +kernel) ⟨Nat.le_of_ble_eq_true rfl, Nat.le_of_ble_eq_true rfl⟩) fb_s rfl rfl hl.1 rfl (lv_room (Nat.le_of_ble_eq_true rfl)) dX2_gift_68 ⟨Nat.zero_le _, Nat.zero_le _⟩) ?_
      exact W.lret (v := (n_less (kd p1.toNatClampNeg) (vl p1.toNatClampNeg) (vl p2.toNatClampNeg))) hx hb hr (fun t ht hW => ⟨_, rfl, (by unfold x_gift; rw [if_neg c_1, if_pos c_2]), ht⟩) (fun _ h => by cases h) dX2_gift_71
    · skip
      by_cases c_3 : p0 = 2
      · skip
        refine lv_tableIn (off := 63) (tgt := 72) hx hb dX2_gift_9 (by rw [c_3]; decide) (by rw [c_3]; decide) (by rw [c_3]; rfl) (by decide) ?_
        refine lv_iload hx hb dX2_gift_72 (lv_at hl 0 rfl) ?_
        refine lv_aload_n hx hb dX2_gift_74 rfl (lv_at hl 1 rfl) ?_
        refine va_get (D := (dC, dI)) (ci := 1) (v := .ref (a 4)) (C := RX2) (T := TX2) (N := 14) hx hb hts h_inX2 hown hK hP 0 rfl rfl 3 (by decide) k_1 (fun _ h9 => h9) rfl dX2_gift_75 ?_
        refine lv_iload_n hx hb dX2_gift_78 rfl (lv_at hl 4 rfl) ?_
        refine va_lald hx hb hK hP 4 1 rfl rfl (by assumption) dX2_gift_79 ?_
        refine lv_aload_n hx hb dX2_gift_80 rfl (lv_at hl 1 rfl) ?_
        refine va_get (D := (dC, dI)) (ci := 1) (v := .ref (a 4)) (C := RX2) (T := TX2) (N := 14) hx hb hts h_inX2 hown hK hP 0 rfl rfl 3 (by decide) k_1 (fun _ h9 => h9) rfl dX2_gift_81 ?_
        refine lv_iload_n hx hb dX2_gift_84 rfl (lv_at hl 3 rfl) ?_
        refine va_lald hx hb hK hP 4 1 rfl rfl (by assumption) dX2_gift_85 ?_
        refine cs_l (W.runS (As := [.int (kd p1.toNatClampNeg), .long (vl p2.toNatClampNeg), .long (vl p1.toNatClampNeg)]) (rest := []) ⟨hx, hb, hml, hown, hts⟩ (c_X0_signed l (kd p1.toNatClampNeg) (vl p2.toNatClampNeg) (vl p1.toNatClampNeg) ) (va_cwS 3 hts gX2_gift_X0_signed rfl rfl rfl (by decide +kernel) ⟨Nat.le_of_ble_eq_true rfl, Nat.le_of_ble_eq_true rfl⟩) fb_s rfl rfl hl.1 rfl (lv_room (Nat.le_of_ble_eq_true rfl)) dX2_gift_86 ⟨Nat.zero_le _, Nat.zero_le _⟩) ?_
        exact W.lret (v := (n_signed (kd p1.toNatClampNeg) (vl p2.toNatClampNeg) (vl p1.toNatClampNeg))) hx hb hr (fun t ht hW => ⟨_, rfl, (by unfold x_gift; rw [if_neg c_1, if_neg c_2, if_pos c_3]), ht⟩) (fun _ h => by cases h) dX2_gift_89
      · skip
        refine lv_tableOut (tgt := 90) hx hb dX2_gift_9 (by have e0 := lv_neT c_1 (a := 0) (by decide); have e1 := lv_neT c_2 (a := 1) (by decide); have e2 := lv_neT c_3 (a := 2) (by decide); omega) (by decide) ?_
        refine lv_iload hx hb dX2_gift_90 (lv_at hl 0 rfl) ?_
        refine lv_aload_n hx hb dX2_gift_92 rfl (lv_at hl 1 rfl) ?_
        refine va_get (D := (dC, dI)) (ci := 1) (v := .ref (a 4)) (C := RX2) (T := TX2) (N := 14) hx hb hts h_inX2 hown hK hP 0 rfl rfl 3 (by decide) k_1 (fun _ h9 => h9) rfl dX2_gift_93 ?_
        refine lv_iload_n hx hb dX2_gift_96 rfl (lv_at hl 3 rfl) ?_
        refine va_lald hx hb hK hP 4 1 rfl rfl (by assumption) dX2_gift_97 ?_
        refine cs_l (W.runS (As := [.int (kd p1.toNatClampNeg), .long (vl p1.toNatClampNeg)]) (rest := []) ⟨hx, hb, hml, hown, hts⟩ (c_X0_sizeOf l (kd p1.toNatClampNeg) (vl p1.toNatClampNeg) ) (va_cwS 2 hts gX2_gift_X0_sizeOf rfl rfl rfl (by decide +kernel) ⟨Nat.le_of_ble_eq_true rfl, Nat.le_of_ble_eq_true rfl⟩) fb_s rfl rfl hl.1 rfl (lv_room (Nat.le_of_ble_eq_true rfl)) dX2_gift_98 ⟨Nat.zero_le _, Nat.zero_le _⟩) ?_
        exact W.lret (v := (n_sizeOf (kd p1.toNatClampNeg) (vl p1.toNatClampNeg))) hx hb hr (fun t ht hW => ⟨_, rfl, (by unfold x_gift; rw [if_neg c_1, if_neg c_2, if_neg c_3]), ht⟩) (fun _ h => by cases h) dX2_gift_101
def x_look (kd : Nat → Int32) (lo : Nat → Int64) (hi : Nat → Int64) (vl : Nat → Int64) (nd : Int32) (p0 : Int32) (p1 : Int32) : Int64 :=
  if (x_isDial nd p0) = 0 then (0 : Int64)
  else if p1 = 0 then (vl p0.toNatClampNeg)
    else if p1 = 1 then (lo p0.toNatClampNeg)
      else if p1 = 2 then (hi p0.toNatClampNeg)
        else if p1 = 3 then (kd p0.toNatClampNeg).toInt64
          else (0 : Int64)
set_option maxHeartbeats 4000000 in
set_option maxRecDepth 100000 in
theorem c_X2_look (l : Launch) (dC : Nat → ClassId) (dI : Nat → Nat → Nat) (cI cJ cZ : ClassId) (a : Nat → Nat) (kd : Nat → Int32) (lo : Nat → Int64) (hi : Nat → Int64) (vl : Nat → Int64) (nd : Int32) (so : Nat → Int32) (fr : Nat → Int32) (tg : Nat → Int32) (gn : Nat → Int32) (nr : Int32) (mo : Int32) (ma : Int32) (fa : Int32) (sv : Nat → Int64) (sd : Nat → Int32) (se : Int32) (sh : Int32) (p0 : Int32) (p1 : Int32) (hn : nd ≤ 16) : Met l yX2_look wsX2_look ({ frames := 1, cells := 0, slots := 0, locals := 21 }) (va_Pc [.ref (a 0), .int p0, .int p1] (fun U => va_P (dC, dI) vwCl (wX cI cJ cZ a kd lo hi vl nd so fr tg gn nr mo ma fa sv sd se sh) U.heap ∧ va_K (dC, dI) vwCl (tA cI cJ cZ) U)) (vp_Sl (fun r => r = x_look kd lo hi vl nd p0 p1)) 0 0 (fun _ => False) := by
  refine Met.ofW (cc := cX2_look) (maxL := 3) (ret := (some .long)) (by decide) rfl ?_
  intro p e s m args below meth c s₁ B hml hv
  obtain ⟨rfl, hP, hK⟩ := hv
  have hx := B.exec
  have hb := B.bytes
  have hr := B.returns
  have hts := atoms_spec (ws := wsX2_look) B.pre
  have hown : s.vm.findClass RX2 = some m.cls := findClass_of_methodNamed B.named
  have hlocks := B.notSynchronized
  have h_inX2 : ∀ w ∈ wsX20, w ∈ wsX2_look := fun _ h => List.mem_cons_of_mem _ (List.mem_append_right _ h)
  have k_0 := hts (.fieldLink RX2 20 "DetentCabinet" "values" "[J") (by decide +kernel)
  have k_1 := hts (.fieldLink RX2 13 "DetentCabinet" "lows" "[J") (by decide +kernel)
  have k_2 := hts (.fieldLink RX2 17 "DetentCabinet" "highs" "[J") (by decide +kernel)
  have k_3 := hts (.fieldLink RX2 9 "DetentCabinet" "kinds" "[I") (by decide +kernel)
  have hl := lv_entry ([.ref (a 0), .int p0, .int p1]) (n := 3) (Nat.le_of_ble_eq_true rfl)
  rw [lg_entry_eq]
  generalize (lg_sl ([.ref (a 0), .int p0, .int p1]) ++ List.replicate (3 - (lg_sl ([.ref (a 0), .int p0, .int p1])).length) Slot.unset).toArray = ls at hl ⊢
  have hl : lv_has ls 3 [(0, .ref (a 0)), (1, .int p0), (2, .int p1)] := hl
  refine lv_aload_n hx hb dX2_look_0 rfl (lv_at hl 0 rfl) ?_
  refine lv_iload_n hx hb dX2_look_1 rfl (lv_at hl 1 rfl) ?_
  refine cs_i (W.runV (As := [.int p0]) (rest := []) ⟨hx, hb, hml, hown, hts⟩ (c_X2_isDial l dC dI cI cJ cZ a kd lo hi vl nd so fr tg gn nr mo ma fa sv sd se sh p0 ) (cwV 1 hts gX2_look_X2_isDial rfl rfl rfl (by decide +kernel) ⟨Nat.le_of_ble_eq_true rfl, Nat.le_of_ble_eq_true rfl⟩) (fb_v hK hP (va_recv hK hP (ci := 1) (q0 := 0) rfl rfl)) rfl rfl hl.1 rfl (lv_room (Nat.le_of_ble_eq_true rfl)) dX2_look_2 ⟨Nat.zero_le _, Nat.zero_le _⟩) ?_
  refine lv_if_ne (tgt := 10) hx hb dX2_look_5 (by decide) (fun c_1 => ?_) (fun c_1 => ?_)
  · skip
    refine lv_iload_n hx hb dX2_look_10 rfl (lv_at hl 2 rfl) ?_
    by_cases c_2 : p1 = 0
    · skip
      refine lv_tableIn (off := 29) (tgt := 40) hx hb dX2_look_11 (by rw [c_2]; decide) (by rw [c_2]; decide) (by rw [c_2]; rfl) (by decide) ?_
      refine lv_aload_n hx hb dX2_look_40 rfl (lv_at hl 0 rfl) ?_
      refine va_get (D := (dC, dI)) (ci := 1) (v := .ref (a 4)) (C := RX2) (T := TX2) (N := 14) hx hb hts h_inX2 hown hK hP 0 rfl rfl 3 (by decide) k_0 (fun _ h9 => h9) rfl dX2_look_41 ?_
      refine lv_iload_n hx hb dX2_look_44 rfl (lv_at hl 1 rfl) ?_
      refine va_lald hx hb hK hP 4 1 rfl rfl (in_d hn (by assumption)) dX2_look_45 ?_
      exact W.lret (v := (vl p0.toNatClampNeg)) hx hb hr (fun t ht hW => ⟨_, rfl, (by unfold x_look; rw [if_neg c_1, if_pos c_2]), ht⟩) (fun _ h => by cases h) dX2_look_46
    · skip
      by_cases c_3 : p1 = 1
      · skip
        refine lv_tableIn (off := 36) (tgt := 47) hx hb dX2_look_11 (by rw [c_3]; decide) (by rw [c_3]; decide) (by rw [c_3]; rfl) (by decide) ?_
        refine lv_aload_n hx hb dX2_look_47 rfl (lv_at hl 0 rfl) ?_
        refine va_get (D := (dC, dI)) (ci := 1) (v := .ref (a 2)) (C := RX2) (T := TX2) (N := 14) hx hb hts h_inX2 hown hK hP 0 rfl rfl 1 (by decide) k_1 (fun _ h9 => h9) rfl dX2_look_48 ?_
        refine lv_iload_n hx hb dX2_look_51 rfl (lv_at hl 1 rfl) ?_
        refine va_lald hx hb hK hP 2 1 rfl rfl (in_d hn (by assumption)) dX2_look_52 ?_
        exact W.lret (v := (lo p0.toNatClampNeg)) hx hb hr (fun t ht hW => ⟨_, rfl, (by unfold x_look; rw [if_neg c_1, if_neg c_2, if_pos c_3]), ht⟩) (fun _ h => by cases h) dX2_look_53
      · skip
        by_cases c_4 : p1 = 2
        · skip
          refine lv_tableIn (off := 43) (tgt := 54) hx hb dX2_look_11 (by rw [c_4]; decide) (by rw [c_4]; decide) (by rw [c_4]; rfl) (by decide) ?_
          refine lv_aload_n hx hb dX2_look_54 rfl (lv_at hl 0 rfl) ?_
          refine va_get (D := (dC, dI)) (ci := 1) (v := .ref (a 3)) (C := RX2) (T := TX2) (N := 14) hx hb hts h_inX2 hown hK hP 0 rfl rfl 2 (by decide) k_2 (fun _ h9 => h9) rfl dX2_look_55 ?_
          refine lv_iload_n hx hb dX2_look_58 rfl (lv_at hl 1 rfl) ?_
          refine va_lald hx hb hK hP 3 1 rfl rfl (in_d hn (by assumption)) dX2_look_59 ?_
          exact W.lret (v := (hi p0.toNatClampNeg)) hx hb hr (fun t ht hW => ⟨_, rfl, (by unfold x_look; rw [if_neg c_1, if_neg c_2, if_neg c_3, if_pos c_4]), ht⟩) (fun _ h => by cases h) dX2_look_60
        · skip
          by_cases c_5 : p1 = 3
          · skip
            refine lv_tableIn (off := 50) (tgt := 61) hx hb dX2_look_11 (by rw [c_5]; decide) (by rw [c_5]; decide) (by rw [c_5]; rfl) (by decide) ?_
            refine lv_aload_n hx hb dX2_look_61 rfl (lv_at hl 0 rfl) ?_
            refine va_get (D := (dC, dI)) (ci := 1) (v := .ref (a 1)) (C := RX2) (T := TX2) (N := 14) hx hb hts h_inX2 hown hK hP 0 rfl rfl 0 (by decide) k_3 (fun _ h9 => h9) rfl dX2_look_62 ?_
            refine lv_iload_n hx hb dX2_look_65 rfl (lv_at hl 1 rfl) ?_
            refine va_iald hx hb hK hP 1 0 rfl rfl (in_d hn (by assumption)) dX2_look_66 ?_
            refine lv_i2l hx hb dX2_look_67 rfl ?_
            exact W.lret (v := (kd p0.toNatClampNeg).toInt64) hx hb hr (fun t ht hW => ⟨_, rfl, (by unfold x_look; rw [if_neg c_1, if_neg c_2, if_neg c_3, if_neg c_4, if_pos c_5]), ht⟩) (fun _ h => by cases h) dX2_look_68
          · skip
            refine lv_tableOut (tgt := 69) hx hb dX2_look_11 (by have e0 := lv_neT c_2 (a := 0) (by decide); have e1 := lv_neT c_3 (a := 1) (by decide); have e2 := lv_neT c_4 (a := 2) (by decide); have e3 := lv_neT c_5 (a := 3) (by decide); omega) (by decide) ?_
            refine lv_lconst (v := 0) hx hb dX2_look_69 (by decide) ?_
            exact W.lret (v := (0 : Int64)) hx hb hr (fun t ht hW => ⟨_, rfl, (by unfold x_look; rw [if_neg c_1, if_neg c_2, if_neg c_3, if_neg c_4, if_neg c_5]), ht⟩) (fun _ h => by cases h) dX2_look_70
  · skip
    refine lv_lconst (v := 0) hx hb dX2_look_8 (by decide) ?_
    exact W.lret (v := (0 : Int64)) hx hb hr (fun t ht hW => ⟨_, rfl, (by unfold x_look; rw [if_pos c_1]), ht⟩) (fun _ h => by cases h) dX2_look_9
def s_held (sh : Int32) : Int32 :=
  sh
set_option maxHeartbeats 4000000 in
set_option maxRecDepth 100000 in
theorem c_X1_held (l : Launch) (dC : Nat → ClassId) (dI : Nat → Nat → Nat) (cI cJ cZ : ClassId) (a : Nat → Nat) (kd : Nat → Int32) (lo : Nat → Int64) (hi : Nat → Int64) (vl : Nat → Int64) (nd : Int32) (so : Nat → Int32) (fr : Nat → Int32) (tg : Nat → Int32) (gn : Nat → Int32) (nr : Int32) (mo : Int32) (ma : Int32) (fa : Int32) (sv : Nat → Int64) (sd : Nat → Int32) (se : Int32) (sh : Int32) : Met l yX1_held wsX1_held ({ frames := 0, cells := 0, slots := 0, locals := 0 }) (va_Pc [.ref (a 9)] (fun U => va_P (dC, dI) vwCl (wX cI cJ cZ a kd lo hi vl nd so fr tg gn nr mo ma fa sv sd se sh) U.heap ∧ va_K (dC, dI) vwCl (tA cI cJ cZ) U)) (vp_Si (fun r => r = s_held sh)) 0 0 (fun _ => False) := by
  refine Met.ofW (cc := cX1_held) (maxL := 1) (ret := (some .int)) (by decide) rfl ?_
  intro p e s m args below meth c s₁ B hml hv
  obtain ⟨rfl, hP, hK⟩ := hv
  have hx := B.exec
  have hb := B.bytes
  have hr := B.returns
  have hts := atoms_spec (ws := wsX1_held) B.pre
  have hown : s.vm.findClass RX1 = some m.cls := findClass_of_methodNamed B.named
  have hlocks := B.notSynchronized
  have h_inX1 : ∀ w ∈ wsX10, w ∈ wsX1_held := fun _ h => List.mem_cons_of_mem _ (List.mem_append_right _ h)
  have k_0 := hts (.fieldLink RX1 19 "DetentCabinet$Steps" "held" "I") (by decide +kernel)
  have hl := lv_entry ([.ref (a 9)]) (n := 1) (Nat.le_of_ble_eq_true rfl)
  rw [lg_entry_eq]
  generalize (lg_sl ([.ref (a 9)]) ++ List.replicate (1 - (lg_sl ([.ref (a 9)])).length) Slot.unset).toArray = ls at hl ⊢
  have hl : lv_has ls 1 [(0, .ref (a 9))] := hl
  refine lv_aload_n hx hb dX1_held_0 rfl (lv_at hl 0 rfl) ?_
  refine va_get (D := (dC, dI)) (ci := 0) (v := .int sh) (C := RX1) (T := TX1) (N := 4) hx hb hts h_inX1 hown hK hP 9 rfl rfl 3 (by decide) k_0 (fun _ h9 => h9) rfl dX1_held_1 ?_
  exact W.iret (v := sh) hx hb hr (fun t ht hW => ⟨_, rfl, rfl, ht⟩) (fun _ h => by cases h) dX1_held_4
def x_count (nd : Int32) (nr : Int32) (ma : Int32) (fa : Int32) (sh : Int32) (p0 : Int32) : Int32 :=
  if p0 = 0 then nd
  else if p0 = 1 then nr
    else if p0 = 2 then (s_held sh)
      else if p0 = 3 then ma
        else if p0 = 4 then fa
          else (-1 : Int32)
set_option maxHeartbeats 4000000 in
set_option maxRecDepth 100000 in
theorem c_X2_count (l : Launch) (dC : Nat → ClassId) (dI : Nat → Nat → Nat) (cI cJ cZ : ClassId) (a : Nat → Nat) (kd : Nat → Int32) (lo : Nat → Int64) (hi : Nat → Int64) (vl : Nat → Int64) (nd : Int32) (so : Nat → Int32) (fr : Nat → Int32) (tg : Nat → Int32) (gn : Nat → Int32) (nr : Int32) (mo : Int32) (ma : Int32) (fa : Int32) (sv : Nat → Int64) (sd : Nat → Int32) (se : Int32) (sh : Int32) (p0 : Int32) : Met l yX2_count wsX2_count ({ frames := 1, cells := 0, slots := 0, locals := 20 }) (va_Pc [.ref (a 0), .int p0] (fun U => va_P (dC, dI) vwCl (wX cI cJ cZ a kd lo hi vl nd so fr tg gn nr mo ma fa sv sd se sh) U.heap ∧ va_K (dC, dI) vwCl (tA cI cJ cZ) U)) (vp_Si (fun r => r = x_count nd nr ma fa sh p0)) 0 0 (fun _ => False) := by
  refine Met.ofW (cc := cX2_count) (maxL := 2) (ret := (some .int)) (by decide) rfl ?_
  intro p e s m args below meth c s₁ B hml hv
  obtain ⟨rfl, hP, hK⟩ := hv
  have hx := B.exec
  have hb := B.bytes
  have hr := B.returns
  have hts := atoms_spec (ws := wsX2_count) B.pre
  have hown : s.vm.findClass RX2 = some m.cls := findClass_of_methodNamed B.named
  have hlocks := B.notSynchronized
  have h_inX2 : ∀ w ∈ wsX20, w ∈ wsX2_count := fun _ h => List.mem_cons_of_mem _ (List.mem_append_left _ (List.mem_append_right _ h))
  have k_0 := hts (.fieldLink RX2 51 "DetentCabinet" "dialCount" "I") (by decide +kernel)
  have k_1 := hts (.fieldLink RX2 64 "DetentCabinet" "rodCount" "I") (by decide +kernel)
  have k_2 := hts (.fieldLink RX2 39 "DetentCabinet" "steps" "LDetentCabinet$Steps;") (by decide +kernel)
  have k_3 := hts (.fieldLink RX2 107 "DetentCabinet" "movesInAll" "I") (by decide +kernel)
  have k_4 := hts (.fieldLink RX2 47 "DetentCabinet" "fault" "I") (by decide +kernel)
  have hl := lv_entry ([.ref (a 0), .int p0]) (n := 2) (Nat.le_of_ble_eq_true rfl)
  rw [lg_entry_eq]
  generalize (lg_sl ([.ref (a 0), .int p0]) ++ List.replicate (2 - (lg_sl ([.ref (a 0), .int p0])).length) Slot.unset).toArray = ls at hl ⊢
  have hl : lv_has ls 2 [(0, .ref (a 0)), (1, .int p0)] := hl
  refine lv_iload_n hx hb dX2_count_0 rfl (lv_at hl 1 rfl) ?_
  by_cases c_1 : p0 = 0
  · skip
    refine lv_tableIn (off := 35) (tgt := 36) hx hb dX2_count_1 (by rw [c_1]; decide) (by rw [c_1]; decide) (by rw [c_1]; rfl) (by decide) ?_
    refine lv_aload_n hx hb dX2_count_36 rfl (lv_at hl 0 rfl) ?_
    refine va_get (D := (dC, dI)) (ci := 1) (v := .int nd) (C := RX2) (T := TX2) (N := 14) hx hb hts h_inX2 hown hK hP 0 rfl rfl 4 (by decide) k_0 (fun _ h9 => h9) rfl dX2_count_37 ?_
    exact W.iret (v := nd) hx hb hr (fun t ht hW => ⟨_, rfl, (by unfold x_count; rw [if_pos c_1]), ht⟩) (fun _ h => by cases h) dX2_count_40
  · skip
    by_cases c_2 : p0 = 1
    · skip
      refine lv_tableIn (off := 40) (tgt := 41) hx hb dX2_count_1 (by rw [c_2]; decide) (by rw [c_2]; decide) (by rw [c_2]; rfl) (by decide) ?_
      refine lv_aload_n hx hb dX2_count_41 rfl (lv_at hl 0 rfl) ?_
      refine va_get (D := (dC, dI)) (ci := 1) (v := .int nr) (C := RX2) (T := TX2) (N := 14) hx hb hts h_inX2 hown hK hP 0 rfl rfl 9 (by decide) k_1 (fun _ h9 => h9) rfl dX2_count_42 ?_
      exact W.iret (v := nr) hx hb hr (fun t ht hW => ⟨_, rfl, (by unfold x_count; rw [if_neg c_1, if_pos c_2]), ht⟩) (fun _ h => by cases h) dX2_count_45
    · skip
      by_cases c_3 : p0 = 2
      · skip
        refine lv_tableIn (off := 45) (tgt := 46) hx hb dX2_count_1 (by rw [c_3]; decide) (by rw [c_3]; decide) (by rw [c_3]; rfl) (by decide) ?_
        refine lv_aload_n hx hb dX2_count_46 rfl (lv_at hl 0 rfl) ?_
        refine va_get (D := (dC, dI)) (ci := 1) (v := .ref (a 9)) (C := RX2) (T := TX2) (N := 14) hx hb hts h_inX2 hown hK hP 0 rfl rfl 10 (by decide) k_2 (fun _ h9 => h9) rfl dX2_count_47 ?_
        refine cs_i (W.runV (As := []) (rest := []) ⟨hx, hb, hml, hown, hts⟩ (c_X1_held l dC dI cI cJ cZ a kd lo hi vl nd so fr tg gn nr mo ma fa sv sd se sh  ) (cwV 0 hts gX2_count_X1_held rfl rfl rfl (by decide +kernel) ⟨Nat.le_of_ble_eq_true rfl, Nat.le_of_ble_eq_true rfl⟩) (fb_v hK hP (va_recv hK hP (ci := 0) (q0 := 9) rfl rfl)) rfl rfl hl.1 rfl (lv_room (Nat.le_of_ble_eq_true rfl)) dX2_count_50 ⟨Nat.zero_le _, Nat.zero_le _⟩) ?_
        exact W.iret (v := (s_held sh)) hx hb hr (fun t ht hW => ⟨_, rfl, (by unfold x_count; rw [if_neg c_1, if_neg c_2, if_pos c_3]), ht⟩) (fun _ h => by cases h) dX2_count_53
      · skip
        by_cases c_4 : p0 = 3
        · skip
          refine lv_tableIn (off := 53) (tgt := 54) hx hb dX2_count_1 (by rw [c_4]; decide) (by rw [c_4]; decide) (by rw [c_4]; rfl) (by decide) ?_
          refine lv_aload_n hx hb dX2_count_54 rfl (lv_at hl 0 rfl) ?_
          refine va_get (D := (dC, dI)) (ci := 1) (v := .int ma) (C := RX2) (T := TX2) (N := 14) hx hb hts h_inX2 hown hK hP 0 rfl rfl 12 (by decide) k_3 (fun _ h9 => h9) rfl dX2_count_55 ?_
          exact W.iret (v := ma) hx hb hr (fun t ht hW => ⟨_, rfl, (by unfold x_count; rw [if_neg c_1, if_neg c_2, if_neg c_3, if_pos c_4]), ht⟩) (fun _ h => by cases h) dX2_count_58
        · skip
          by_cases c_5 : p0 = 4
          · skip
            refine lv_tableIn (off := 58) (tgt := 59) hx hb dX2_count_1 (by rw [c_5]; decide) (by rw [c_5]; decide) (by rw [c_5]; rfl) (by decide) ?_
            refine lv_aload_n hx hb dX2_count_59 rfl (lv_at hl 0 rfl) ?_
            refine va_get (D := (dC, dI)) (ci := 1) (v := .int fa) (C := RX2) (T := TX2) (N := 14) hx hb hts h_inX2 hown hK hP 0 rfl rfl 13 (by decide) k_4 (fun _ h9 => h9) rfl dX2_count_60 ?_
            exact W.iret (v := fa) hx hb hr (fun t ht hW => ⟨_, rfl, (by unfold x_count; rw [if_neg c_1, if_neg c_2, if_neg c_3, if_neg c_4, if_pos c_5]), ht⟩) (fun _ h => by cases h) dX2_count_63
          · skip
            refine lv_tableOut (tgt := 64) hx hb dX2_count_1 (by have e0 := lv_neT c_1 (a := 0) (by decide); have e1 := lv_neT c_2 (a := 1) (by decide); have e2 := lv_neT c_3 (a := 2) (by decide); have e3 := lv_neT c_4 (a := 3) (by decide); have e4 := lv_neT c_5 (a := 4) (by decide); omega) (by decide) ?_
            refine lv_iconst (v := (-1)) hx hb dX2_count_64 (by decide) ?_
            exact W.iret (v := (-1 : Int32)) hx hb hr (fun t ht hW => ⟨_, rfl, (by unfold x_count; rw [if_neg c_1, if_neg c_2, if_neg c_3, if_neg c_4, if_neg c_5]), ht⟩) (fun _ h => by cases h) dX2_count_65
