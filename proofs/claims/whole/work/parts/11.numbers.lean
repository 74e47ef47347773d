def n_isReal (p0 : Int32) : Int32 :=
  if p0 = (2 : Int32) then (1 : Int32)
  else if p0 = (3 : Int32) then (1 : Int32)
    else (0 : Int32)
set_option maxHeartbeats 4000000 in
set_option maxRecDepth 100000 in
theorem c_X0_isReal (l : Launch) (p0 : Int32) : Met l yX0_isReal wsX0_isReal ({ frames := 0, cells := 0, slots := 0, locals := 0 }) (va_Pc [.int p0] (fun _ => True)) (vp_Si (fun r => r = n_isReal p0)) 0 0 (fun _ => False) := by
  refine Met.ofW (cc := cX0_isReal) (maxL := 1) (ret := (some .boolean)) (by decide) rfl ?_
  intro p e s m args below meth c s₁ B hml hv
  obtain ⟨rfl, -⟩ := hv
  have hx := B.exec
  have hb := B.bytes
  have hr := B.returns
  have hts := atoms_spec (ws := wsX0_isReal) B.pre
  have hown : s.vm.findClass RX0 = some m.cls := findClass_of_methodNamed B.named
  have hlocks := B.notSynchronized
  have hl := lv_entry ([.int p0]) (n := 1) (Nat.le_of_ble_eq_true rfl)
  rw [lg_entry_eq]
  generalize (lg_sl ([.int p0]) ++ List.replicate (1 - (lg_sl ([.int p0])).length) Slot.unset).toArray = ls at hl ⊢
  have hl : lv_has ls 1 [(0, .int p0)] := hl
  refine lv_iload_n hx hb dX0_isReal_0 rfl (lv_at hl 0 rfl) ?_
  refine lv_iconst (v := 2) hx hb dX0_isReal_1 (by decide) ?_
  refine lv_icmp_eq (tgt := 10) hx hb dX0_isReal_2 (by decide) (fun c_1 => ?_) (fun c_1 => ?_)
  · skip
    refine lv_iconst (v := 1) hx hb dX0_isReal_10 (by decide) ?_
    refine lv_goto (tgt := 15) hx hb dX0_isReal_11 (by decide) ?_
    exact W.zret (v := (1 : Int32)) hx hb hr (by first | rfl | decide | assumption) (fun t ht hW => ⟨_, rfl, (by unfold n_isReal; rw [if_pos c_1]), ht⟩) (fun _ h => by cases h) dX0_isReal_15
  · skip
    refine lv_iload_n hx hb dX0_isReal_5 rfl (lv_at hl 0 rfl) ?_
    refine lv_iconst (v := 3) hx hb dX0_isReal_6 (by decide) ?_
    refine lv_icmp_ne (tgt := 14) hx hb dX0_isReal_7 (by decide) (fun c_2 => ?_) (fun c_2 => ?_)
    · skip
      refine lv_iconst (v := 0) hx hb dX0_isReal_14 (by decide) ?_
      exact W.zret (v := (0 : Int32)) hx hb hr (by first | rfl | decide | assumption) (fun t ht hW => ⟨_, rfl, (by unfold n_isReal; rw [if_neg c_1, if_neg c_2]), ht⟩) (fun _ h => by cases h) dX0_isReal_15
    · skip
      refine lv_iconst (v := 1) hx hb dX0_isReal_10 (by decide) ?_
      refine lv_goto (tgt := 15) hx hb dX0_isReal_11 (by decide) ?_
      exact W.zret (v := (1 : Int32)) hx hb hr (by first | rfl | decide | assumption) (fun t ht hW => ⟨_, rfl, (by unfold n_isReal; rw [if_neg c_1, if_pos c_2]), ht⟩) (fun _ h => by cases h) dX0_isReal_15
def n_isOfKind (p0 : Int32) (p1 : Int64) : Int32 :=
  if p1 = p1.toInt32.toInt64 then (if p0 = 0 then (1 : Int32)
    else if p0 = 1 then (1 : Int32)
      else if p0 = 2 then (if (2139095040 : Int64) < (p1 &&& (2147483647 : Int64)) then (0 : Int32)
          else (1 : Int32))
        else if p0 = 3 then (if (9218868437227405312 : Int64) < (p1 &&& (9223372036854775807 : Int64)) then (0 : Int32)
            else (1 : Int32))
          else (1 : Int32))
  else if p0 = 0 then (0 : Int32)
    else if p0 = 1 then (1 : Int32)
      else if p0 = 2 then (0 : Int32)
        else if p0 = 3 then (if (9218868437227405312 : Int64) < (p1 &&& (9223372036854775807 : Int64)) then (0 : Int32)
            else (1 : Int32))
          else (1 : Int32)
set_option maxHeartbeats 4000000 in
set_option maxRecDepth 100000 in
theorem c_X0_isOfKind (l : Launch) (p0 : Int32) (p1 : Int64) : Met l yX0_isOfKind wsX0_isOfKind ({ frames := 0, cells := 0, slots := 0, locals := 0 }) (va_Pc [.int p0, .long p1] (fun _ => True)) (vp_Si (fun r => r = n_isOfKind p0 p1)) 0 0 (fun _ => False) := by
  refine Met.ofW (cc := cX0_isOfKind) (maxL := 4) (ret := (some .boolean)) (by decide) rfl ?_
  intro p e s m args below meth c s₁ B hml hv
  obtain ⟨rfl, -⟩ := hv
  have hx := B.exec
  have hb := B.bytes
  have hr := B.returns
  have hts := atoms_spec (ws := wsX0_isOfKind) B.pre
  have hown : s.vm.findClass RX0 = some m.cls := findClass_of_methodNamed B.named
  have hlocks := B.notSynchronized
  have k_0 := hts (.constantLong RX0 15 (9223372036854775807)) (by decide +kernel)
  have k_1 := hts (.constantLong RX0 17 (9218868437227405312)) (by decide +kernel)
  have k_2 := hts (.constantLong RX0 11 (2147483647)) (by decide +kernel)
  have k_3 := hts (.constantLong RX0 13 (2139095040)) (by decide +kernel)
  have hl := lv_entry ([.int p0, .long p1]) (n := 4) (Nat.le_of_ble_eq_true rfl)
  rw [lg_entry_eq]
  generalize (lg_sl ([.int p0, .long p1]) ++ List.replicate (4 - (lg_sl ([.int p0, .long p1])).length) Slot.unset).toArray = ls at hl ⊢
  have hl : lv_has ls 4 [(0, .int p0), (1, .long p1)] := hl
  refine lv_lload_n hx hb dX0_isOfKind_0 rfl (lv_at hl 1 rfl) ?_
  refine lv_lload_n hx hb dX0_isOfKind_1 rfl (lv_at hl 1 rfl) ?_
  refine lv_l2i hx hb dX0_isOfKind_2 rfl ?_
  refine lv_i2l hx hb dX0_isOfKind_3 rfl ?_
  refine W.lcmp hx hb dX0_isOfKind_4 ?_
  refine lv_if_ne (tgt := 12) hx hb dX0_isOfKind_5 (by decide) (fun c_1 => ?_) (fun c_1 => ?_)
  · skip
    have c_1 : ¬ (p1 = p1.toInt32.toInt64) := fun h => c_1 ((lg_cmp_eq _ _).mpr h)
    refine lv_iconst (v := 0) hx hb dX0_isOfKind_12 (by decide) ?_
    refine lv_istore_n (lv' := [(3, .int (0 : Int32)), (0, .int p0), (1, .long p1)]) hx hb dX0_isOfKind_13 rfl hl (by decide) rfl (fun ls hl => ?_)
    refine lv_iload_n hx hb dX0_isOfKind_14 rfl (lv_at hl 1 rfl) ?_
    by_cases c_2 : p0 = 0
    · skip
      refine lv_tableIn (off := 29) (tgt := 44) hx hb dX0_isOfKind_15 (by rw [c_2]; decide) (by rw [c_2]; decide) (by rw [c_2]; rfl) (by decide) ?_
      refine lv_iload_n hx hb dX0_isOfKind_44 rfl (lv_at hl 0 rfl) ?_
      exact W.zret (v := (0 : Int32)) hx hb hr (by first | rfl | decide | assumption) (fun t ht hW => ⟨_, rfl, (by unfold n_isOfKind; rw [if_neg c_1, if_pos c_2]), ht⟩) (fun _ h => by cases h) dX0_isOfKind_45
    · skip
      by_cases c_3 : p0 = 1
      · skip
        refine lv_tableIn (off := 71) (tgt := 86) hx hb dX0_isOfKind_15 (by rw [c_3]; decide) (by rw [c_3]; decide) (by rw [c_3]; rfl) (by decide) ?_
        refine lv_iconst (v := 1) hx hb dX0_isOfKind_86 (by decide) ?_
        exact W.zret (v := (1 : Int32)) hx hb hr (by first | rfl | decide | assumption) (fun t ht hW => ⟨_, rfl, (by unfold n_isOfKind; rw [if_neg c_1, if_neg c_2, if_pos c_3]), ht⟩) (fun _ h => by cases h) dX0_isOfKind_87
      · skip
        by_cases c_4 : p0 = 2
        · skip
          refine lv_tableIn (off := 31) (tgt := 46) hx hb dX0_isOfKind_15 (by rw [c_4]; decide) (by rw [c_4]; decide) (by rw [c_4]; rfl) (by decide) ?_
          refine lv_iload_n hx hb dX0_isOfKind_46 rfl (lv_at hl 0 rfl) ?_
          refine lv_if_eq (tgt := 66) hx hb dX0_isOfKind_47 (by decide) (fun c_5 => ?_) (fun c_5 => ?_)
          · skip
            refine lv_iconst (v := 0) hx hb dX0_isOfKind_66 (by decide) ?_
            exact W.zret (v := (0 : Int32)) hx hb hr (by first | rfl | decide | assumption) (fun t ht hW => ⟨_, rfl, (by unfold n_isOfKind; rw [if_neg c_1, if_neg c_2, if_neg c_3, if_pos c_4]), ht⟩) (fun _ h => by cases h) dX0_isOfKind_67
          · skip
            exact absurd (by decide) c_5
        · skip
          by_cases c_6 : p0 = 3
          · skip
            refine lv_tableIn (off := 53) (tgt := 68) hx hb dX0_isOfKind_15 (by rw [c_6]; decide) (by rw [c_6]; decide) (by rw [c_6]; rfl) (by decide) ?_
            refine lv_lload_n hx hb dX0_isOfKind_68 rfl (lv_at hl 2 rfl) ?_
            refine lv_ldc2 hx hb hown k_0 dX0_isOfKind_69 ?_
            refine lv_land hx hb dX0_isOfKind_72 ?_
            refine lv_ldc2 hx hb hown k_1 dX0_isOfKind_73 ?_
            refine W.lcmp hx hb dX0_isOfKind_76 ?_
            refine lv_if_gt (tgt := 84) hx hb dX0_isOfKind_77 (by decide) (fun c_7 => ?_) (fun c_7 => ?_)
            · skip
              have c_7 : (9218868437227405312 : Int64) < (p1 &&& (9223372036854775807 : Int64)) := (lg_cmp_gt _ _).mp c_7
              refine lv_iconst (v := 0) hx hb dX0_isOfKind_84 (by decide) ?_
              exact W.zret (v := (0 : Int32)) hx hb hr (by first | rfl | decide | assumption) (fun t ht hW => ⟨_, rfl, (by unfold n_isOfKind; rw [if_neg c_1, if_neg c_2, if_neg c_3, if_neg c_4, if_pos c_6, if_pos c_7]), ht⟩) (fun _ h => by cases h) dX0_isOfKind_85
            · skip
              have c_7 : ¬ ((9218868437227405312 : Int64) < (p1 &&& (9223372036854775807 : Int64))) := fun h => c_7 ((lg_cmp_gt _ _).mpr h)
              refine lv_iconst (v := 1) hx hb dX0_isOfKind_80 (by decide) ?_
              refine lv_goto (tgt := 85) hx hb dX0_isOfKind_81 (by decide) ?_
              exact W.zret (v := (1 : Int32)) hx hb hr (by first | rfl | decide | assumption) (fun t ht hW => ⟨_, rfl, (by unfold n_isOfKind; rw [if_neg c_1, if_neg c_2, if_neg c_3, if_neg c_4, if_pos c_6, if_neg c_7]), ht⟩) (fun _ h => by cases h) dX0_isOfKind_85
          · skip
            refine lv_tableOut (tgt := 86) hx hb dX0_isOfKind_15 (by have e0 := lv_neT c_2 (a := 0) (by decide); have e1 := lv_neT c_3 (a := 1) (by decide); have e2 := lv_neT c_4 (a := 2) (by decide); have e3 := lv_neT c_6 (a := 3) (by decide); omega) (by decide) ?_
            refine lv_iconst (v := 1) hx hb dX0_isOfKind_86 (by decide) ?_
            exact W.zret (v := (1 : Int32)) hx hb hr (by first | rfl | decide | assumption) (fun t ht hW => ⟨_, rfl, (by unfold n_isOfKind; rw [if_neg c_1, if_neg c_2, if_neg c_3, if_neg c_4, if_neg c_6]), ht⟩) (fun _ h => by cases h) dX0_isOfKind_87
  · skip
    have c_1 : p1 = p1.toInt32.toInt64 := (lg_cmp_eq _ _).mp c_1
    refine lv_iconst (v := 1) hx hb dX0_isOfKind_8 (by decide) ?_
    refine lv_goto (tgt := 13) hx hb dX0_isOfKind_9 (by decide) ?_
    refine lv_istore_n (lv' := [(3, .int (1 : Int32)), (0, .int p0), (1, .long p1)]) hx hb dX0_isOfKind_13 rfl hl (by decide) rfl (fun ls hl => ?_)
    refine lv_iload_n hx hb dX0_isOfKind_14 rfl (lv_at hl 1 rfl) ?_
    by_cases c_8 : p0 = 0
    · skip
      refine lv_tableIn (off := 29) (tgt := 44) hx hb dX0_isOfKind_15 (by rw [c_8]; decide) (by rw [c_8]; decide) (by rw [c_8]; rfl) (by decide) ?_
      refine lv_iload_n hx hb dX0_isOfKind_44 rfl (lv_at hl 0 rfl) ?_
      exact W.zret (v := (1 : Int32)) hx hb hr (by first | rfl | decide | assumption) (fun t ht hW => ⟨_, rfl, (by unfold n_isOfKind; rw [if_pos c_1, if_pos c_8]), ht⟩) (fun _ h => by cases h) dX0_isOfKind_45
    · skip
      by_cases c_9 : p0 = 1
      · skip
        refine lv_tableIn (off := 71) (tgt := 86) hx hb dX0_isOfKind_15 (by rw [c_9]; decide) (by rw [c_9]; decide) (by rw [c_9]; rfl) (by decide) ?_
        refine lv_iconst (v := 1) hx hb dX0_isOfKind_86 (by decide) ?_
        exact W.zret (v := (1 : Int32)) hx hb hr (by first | rfl | decide | assumption) (fun t ht hW => ⟨_, rfl, (by unfold n_isOfKind; rw [if_pos c_1, if_neg c_8, if_pos c_9]), ht⟩) (fun _ h => by cases h) dX0_isOfKind_87
      · skip
        by_cases c_10 : p0 = 2
        · skip
          refine lv_tableIn (off := 31) (tgt := 46) hx hb dX0_isOfKind_15 (by rw [c_10]; decide) (by rw [c_10]; decide) (by rw [c_10]; rfl) (by decide) ?_
          refine lv_iload_n hx hb dX0_isOfKind_46 rfl (lv_at hl 0 rfl) ?_
          refine lv_if_eq (tgt := 66) hx hb dX0_isOfKind_47 (by decide) (fun c_11 => ?_) (fun c_11 => ?_)
          · skip
            exact absurd c_11 (by decide)
          · skip
            refine lv_lload_n hx hb dX0_isOfKind_50 rfl (lv_at hl 2 rfl) ?_
            refine lv_ldc2 hx hb hown k_2 dX0_isOfKind_51 ?_
            refine lv_land hx hb dX0_isOfKind_54 ?_
            refine lv_ldc2 hx hb hown k_3 dX0_isOfKind_55 ?_
            refine W.lcmp hx hb dX0_isOfKind_58 ?_
            refine lv_if_gt (tgt := 66) hx hb dX0_isOfKind_59 (by decide) (fun c_12 => ?_) (fun c_12 => ?_)
            · skip
              have c_12 : (2139095040 : Int64) < (p1 &&& (2147483647 : Int64)) := (lg_cmp_gt _ _).mp c_12
              refine lv_iconst (v := 0) hx hb dX0_isOfKind_66 (by decide) ?_
              exact W.zret (v := (0 : Int32)) hx hb hr (by first | rfl | decide | assumption) (fun t ht hW => ⟨_, rfl, (by unfold n_isOfKind; rw [if_pos c_1, if_neg c_8, if_neg c_9, if_pos c_10, if_pos c_12]), ht⟩) (fun _ h => by cases h) dX0_isOfKind_67
            · skip
              have c_12 : ¬ ((2139095040 : Int64) < (p1 &&& (2147483647 : Int64))) := fun h => c_12 ((lg_cmp_gt _ _).mpr h)
              refine lv_iconst (v := 1) hx hb dX0_isOfKind_62 (by decide) ?_
              refine lv_goto (tgt := 67) hx hb dX0_isOfKind_63 (by decide) ?_
              exact W.zret (v := (1 : Int32)) hx hb hr (by first | rfl | decide | assumption) (fun t ht hW => ⟨_, rfl, (by unfold n_isOfKind; rw [if_pos c_1, if_neg c_8, if_neg c_9, if_pos c_10, if_neg c_12]), ht⟩) (fun _ h => by cases h) dX0_isOfKind_67
        · skip
          by_cases c_13 : p0 = 3
          · skip
            refine lv_tableIn (off := 53) (tgt := 68) hx hb dX0_isOfKind_15 (by rw [c_13]; decide) (by rw [c_13]; decide) (by rw [c_13]; rfl) (by decide) ?_
            refine lv_lload_n hx hb dX0_isOfKind_68 rfl (lv_at hl 2 rfl) ?_
            refine lv_ldc2 hx hb hown k_0 dX0_isOfKind_69 ?_
            refine lv_land hx hb dX0_isOfKind_72 ?_
            refine lv_ldc2 hx hb hown k_1 dX0_isOfKind_73 ?_
            refine W.lcmp hx hb dX0_isOfKind_76 ?_
            refine lv_if_gt (tgt := 84) hx hb dX0_isOfKind_77 (by decide) (fun c_14 => ?_) (fun c_14 => ?_)
            · skip
              have c_14 : (9218868437227405312 : Int64) < (p1 &&& (9223372036854775807 : Int64)) := (lg_cmp_gt _ _).mp c_14
              refine lv_iconst (v := 0) hx hb dX0_isOfKind_84 (by decide) ?_
              exact W.zret (v := (0 : Int32)) hx hb hr (by first | rfl | decide | assumption) (fun t ht hW => ⟨_, rfl, (by unfold n_isOfKind; rw [if_pos c_1, if_neg c_8, if_neg c_9, if_neg c_10, if_pos c_13, if_pos c_14]), ht⟩) (fun _ h => by cases h) dX0_isOfKind_85
            · skip
              have c_14 : ¬ ((9218868437227405312 : Int64) < (p1 &&& (9223372036854775807 : Int64))) := fun h => c_14 ((lg_cmp_gt _ _).mpr h)
              refine lv_iconst (v := 1) hx hb dX0_isOfKind_80 (by decide) ?_
              refine lv_goto (tgt := 85) hx hb dX0_isOfKind_81 (by decide) ?_
              exact W.zret (v := (1 : Int32)) hx hb hr (by first | rfl | decide | assumption) (fun t ht hW => ⟨_, rfl, (by unfold n_isOfKind; rw [if_pos c_1, if_neg c_8, if_neg c_9, if_neg c_10, if_pos c_13, if_neg c_14]), ht⟩) (fun _ h => by cases h) dX0_isOfKind_85
          · skip
            refine lv_tableOut (tgt := 86) hx hb dX0_isOfKind_15 (by have e0 := lv_neT c_8 (a := 0) (by decide); have e1 := lv_neT c_9 (a := 1) (by decide); have e2 := lv_neT c_10 (a := 2) (by decide); have e3 := lv_neT c_13 (a := 3) (by decide); omega) (by decide) ?_
            refine lv_iconst (v := 1) hx hb dX0_isOfKind_86 (by decide) ?_
            exact W.zret (v := (1 : Int32)) hx hb hr (by first | rfl | decide | assumption) (fun t ht hW => ⟨_, rfl, (by unfold n_isOfKind; rw [if_pos c_1, if_neg c_8, if_neg c_9, if_neg c_10, if_neg c_13]), ht⟩) (fun _ h => by cases h) dX0_isOfKind_87
def n_sizeBits (p0 : Int32) : Int64 :=
  if p0 = (2 : Int32) then (2147483647 : Int64)
  else (9223372036854775807 : Int64)
set_option maxHeartbeats 4000000 in
set_option maxRecDepth 100000 in
theorem c_X0_sizeBits (l : Launch) (p0 : Int32) : Met l yX0_sizeBits wsX0_sizeBits ({ frames := 0, cells := 0, slots := 0, locals := 0 }) (va_Pc [.int p0] (fun _ => True)) (vp_Sl (fun r => r = n_sizeBits p0)) 0 0 (fun _ => False) := by
  refine Met.ofW (cc := cX0_sizeBits) (maxL := 1) (ret := (some .long)) (by decide) rfl ?_
  intro p e s m args below meth c s₁ B hml hv
  obtain ⟨rfl, -⟩ := hv
  have hx := B.exec
  have hb := B.bytes
  have hr := B.returns
  have hts := atoms_spec (ws := wsX0_sizeBits) B.pre
  have hown : s.vm.findClass RX0 = some m.cls := findClass_of_methodNamed B.named
  have hlocks := B.notSynchronized
  have k_0 := hts (.constantLong RX0 15 (9223372036854775807)) (by decide +kernel)
  have k_1 := hts (.constantLong RX0 11 (2147483647)) (by decide +kernel)
  have hl := lv_entry ([.int p0]) (n := 1) (Nat.le_of_ble_eq_true rfl)
  rw [lg_entry_eq]
  generalize (lg_sl ([.int p0]) ++ List.replicate (1 - (lg_sl ([.int p0])).length) Slot.unset).toArray = ls at hl ⊢
  have hl : lv_has ls 1 [(0, .int p0)] := hl
  refine lv_iload_n hx hb dX0_sizeBits_0 rfl (lv_at hl 0 rfl) ?_
  refine lv_iconst (v := 2) hx hb dX0_sizeBits_1 (by decide) ?_
  refine lv_icmp_ne (tgt := 11) hx hb dX0_sizeBits_2 (by decide) (fun c_1 => ?_) (fun c_1 => ?_)
  · skip
    refine lv_ldc2 hx hb hown k_0 dX0_sizeBits_11 ?_
    exact W.lret (v := (9223372036854775807 : Int64)) hx hb hr (fun t ht hW => ⟨_, rfl, (by unfold n_sizeBits; rw [if_neg c_1]), ht⟩) (fun _ h => by cases h) dX0_sizeBits_14
  · skip
    refine lv_ldc2 hx hb hown k_1 dX0_sizeBits_5 ?_
    refine lv_goto (tgt := 14) hx hb dX0_sizeBits_8 (by decide) ?_
    exact W.lret (v := (2147483647 : Int64)) hx hb hr (fun t ht hW => ⟨_, rfl, (by unfold n_sizeBits; rw [if_pos c_1]), ht⟩) (fun _ h => by cases h) dX0_sizeBits_14
def n_rank (p0 : Int32) (p1 : Int64) : Int64 :=
  if (n_isReal p0) = 0 then p1
  else if (0 : Int64) ≤ p1 then p1
    else (p1 ^^^ (n_sizeBits p0))
set_option maxHeartbeats 4000000 in
set_option maxRecDepth 100000 in
theorem c_X0_rank (l : Launch) (p0 : Int32) (p1 : Int64) : Met l yX0_rank wsX0_rank ({ frames := 1, cells := 0, slots := 0, locals := 20 }) (va_Pc [.int p0, .long p1] (fun _ => True)) (vp_Sl (fun r => r = n_rank p0 p1)) 0 0 (fun _ => False) := by
  refine Met.ofW (cc := cX0_rank) (maxL := 3) (ret := (some .long)) (by decide) rfl ?_
  intro p e s m args below meth c s₁ B hml hv
  obtain ⟨rfl, -⟩ := hv
  have hx := B.exec
  have hb := B.bytes
  have hr := B.returns
  have hts := atoms_spec (ws := wsX0_rank) B.pre
  have hown : s.vm.findClass RX0 = some m.cls := findClass_of_methodNamed B.named
  have hlocks := B.notSynchronized
  have hl := lv_entry ([.int p0, .long p1]) (n := 3) (Nat.le_of_ble_eq_true rfl)
  rw [lg_entry_eq]
  generalize (lg_sl ([.int p0, .long p1]) ++ List.replicate (3 - (lg_sl ([.int p0, .long p1])).length) Slot.unset).toArray = ls at hl ⊢
  have hl : lv_has ls 3 [(0, .int p0), (1, .long p1)] := hl
  refine lv_iload_n hx hb dX0_rank_0 rfl (lv_at hl 0 rfl) ?_
  refine cs_i (W.runS (As := [.int p0]) (rest := []) ⟨hx, hb, hml, hown, hts⟩ (c_X0_isReal l p0 ) (va_cwS 1 hts gX0_rank_X0_isReal rfl rfl rfl (by decide +kernel) ⟨Nat.le_of_ble_eq_true rfl, Nat.le_of_ble_eq_true rfl⟩) fb_s rfl rfl hl.1 rfl (lv_room (Nat.le_of_ble_eq_true rfl)) dX0_rank_1 ⟨Nat.zero_le _, Nat.zero_le _⟩) ?_
  refine lv_if_eq (tgt := 22) hx hb dX0_rank_4 (by decide) (fun c_1 => ?_) (fun c_1 => ?_)
  · skip
    refine lv_lload_n hx hb dX0_rank_22 rfl (lv_at hl 1 rfl) ?_
    exact W.lret (v := p1) hx hb hr (fun t ht hW => ⟨_, rfl, (by unfold n_rank; rw [if_pos c_1]), ht⟩) (fun _ h => by cases h) dX0_rank_23
  · skip
    refine lv_lload_n hx hb dX0_rank_7 rfl (lv_at hl 1 rfl) ?_
    refine lv_lconst (v := 0) hx hb dX0_rank_8 (by decide) ?_
    refine W.lcmp hx hb dX0_rank_9 ?_
    refine lv_if_ge (tgt := 22) hx hb dX0_rank_10 (by decide) (fun c_2 => ?_) (fun c_2 => ?_)
    · skip
      have c_2 : (0 : Int64) ≤ p1 := (lg_cmp_ge _ _).mp c_2
      refine lv_lload_n hx hb dX0_rank_22 rfl (lv_at hl 1 rfl) ?_
      exact W.lret (v := p1) hx hb hr (fun t ht hW => ⟨_, rfl, (by unfold n_rank; rw [if_neg c_1, if_pos c_2]), ht⟩) (fun _ h => by cases h) dX0_rank_23
    · skip
      have c_2 : ¬ ((0 : Int64) ≤ p1) := fun h => c_2 ((lg_cmp_ge _ _).mpr h)
      refine lv_lload_n hx hb dX0_rank_13 rfl (lv_at hl 1 rfl) ?_
      refine lv_iload_n hx hb dX0_rank_14 rfl (lv_at hl 0 rfl) ?_
      refine cs_l (W.runS (As := [.int p0]) (rest := [.long p1]) ⟨hx, hb, hml, hown, hts⟩ (c_X0_sizeBits l p0 ) (va_cwS 1 hts gX0_rank_X0_sizeBits rfl rfl rfl (by decide +kernel) ⟨Nat.le_of_ble_eq_true rfl, Nat.le_of_ble_eq_true rfl⟩) fb_s rfl rfl hl.1 rfl (lv_room (Nat.le_of_ble_eq_true rfl)) dX0_rank_15 ⟨Nat.zero_le _, Nat.zero_le _⟩) ?_
      refine lv_lxor hx hb dX0_rank_18 ?_
      refine lv_goto (tgt := 23) hx hb dX0_rank_19 (by decide) ?_
      exact W.lret (v := (p1 ^^^ (n_sizeBits p0))) hx hb hr (fun t ht hW => ⟨_, rfl, (by unfold n_rank; rw [if_neg c_1, if_neg c_2]), ht⟩) (fun _ h => by cases h) dX0_rank_23
def n_compared (p0 : Int32) (p1 : Int64) (p2 : Int64) : Int32 :=
  if (n_rank p0 p1) ≤ (n_rank p0 p2) then (if (n_rank p0 p2) ≤ (n_rank p0 p1) then (0 : Int32)
    else (-1 : Int32))
  else (1 : Int32)
set_option maxHeartbeats 4000000 in
set_option maxRecDepth 100000 in
theorem c_X0_compared (l : Launch) (p0 : Int32) (p1 : Int64) (p2 : Int64) : Met l yX0_compared wsX0_compared ({ frames := 2, cells := 0, slots := 0, locals := 42 }) (va_Pc [.int p0, .long p1, .long p2] (fun _ => True)) (vp_Si (fun r => r = n_compared p0 p1 p2)) 0 0 (fun _ => False) := by
  refine Met.ofW (cc := cX0_compared) (maxL := 9) (ret := (some .int)) (by decide) rfl ?_
  intro p e s m args below meth c s₁ B hml hv
  obtain ⟨rfl, -⟩ := hv
  have hx := B.exec
  have hb := B.bytes
  have hr := B.returns
  have hts := atoms_spec (ws := wsX0_compared) B.pre
  have hown : s.vm.findClass RX0 = some m.cls := findClass_of_methodNamed B.named
  have hlocks := B.notSynchronized
  have hl := lv_entry ([.int p0, .long p1, .long p2]) (n := 9) (Nat.le_of_ble_eq_true rfl)
  rw [lg_entry_eq]
  generalize (lg_sl ([.int p0, .long p1, .long p2]) ++ List.replicate (9 - (lg_sl ([.int p0, .long p1, .long p2])).length) Slot.unset).toArray = ls at hl ⊢
  have hl : lv_has ls 9 [(0, .int p0), (1, .long p1), (3, .long p2)] := hl
  refine lv_iload_n hx hb dX0_compared_0 rfl (lv_at hl 0 rfl) ?_
  refine lv_lload_n hx hb dX0_compared_1 rfl (lv_at hl 1 rfl) ?_
  refine cs_l (W.runS (As := [.int p0, .long p1]) (rest := []) ⟨hx, hb, hml, hown, hts⟩ (c_X0_rank l p0 p1 ) (va_cwS 2 hts gX0_compared_X0_rank rfl rfl rfl (by decide +kernel) ⟨Nat.le_of_ble_eq_true rfl, Nat.le_of_ble_eq_true rfl⟩) fb_s rfl rfl hl.1 rfl (lv_room (Nat.le_of_ble_eq_true rfl)) dX0_compared_2 ⟨Nat.zero_le _, Nat.zero_le _⟩) ?_
  refine lv_lstore (lv' := [(5, .long (n_rank p0 p1)), (0, .int p0), (1, .long p1), (3, .long p2)]) hx hb dX0_compared_5 hl (by decide) rfl (fun ls hl => ?_)
  refine lv_iload_n hx hb dX0_compared_7 rfl (lv_at hl 1 rfl) ?_
  refine lv_lload_n hx hb dX0_compared_8 rfl (lv_at hl 3 rfl) ?_
  refine cs_l (W.runS (As := [.int p0, .long p2]) (rest := []) ⟨hx, hb, hml, hown, hts⟩ (c_X0_rank l p0 p2 ) (va_cwS 2 hts gX0_compared_X0_rank rfl rfl rfl (by decide +kernel) ⟨Nat.le_of_ble_eq_true rfl, Nat.le_of_ble_eq_true rfl⟩) fb_s rfl rfl hl.1 rfl (lv_room (Nat.le_of_ble_eq_true rfl)) dX0_compared_9 ⟨Nat.zero_le _, Nat.zero_le _⟩) ?_
  refine lv_lstore (lv' := [(7, .long (n_rank p0 p2)), (5, .long (n_rank p0 p1)), (0, .int p0), (1, .long p1), (3, .long p2)]) hx hb dX0_compared_12 hl (by decide) rfl (fun ls hl => ?_)
  refine lv_lload hx hb dX0_compared_14 (lv_at hl 1 rfl) ?_
  refine lv_lload hx hb dX0_compared_16 (lv_at hl 0 rfl) ?_
  refine W.lcmp hx hb dX0_compared_18 ?_
  refine lv_if_le (tgt := 26) hx hb dX0_compared_19 (by decide) (fun c_1 => ?_) (fun c_1 => ?_)
  · skip
    have c_1 : (n_rank p0 p1) ≤ (n_rank p0 p2) := (lg_cmp_le _ _).mp c_1
    refine lv_lload hx hb dX0_compared_26 (lv_at hl 1 rfl) ?_
    refine lv_lload hx hb dX0_compared_28 (lv_at hl 0 rfl) ?_
    refine W.lcmp hx hb dX0_compared_30 ?_
    refine lv_if_ge (tgt := 38) hx hb dX0_compared_31 (by decide) (fun c_2 => ?_) (fun c_2 => ?_)
    · skip
      have c_2 : (n_rank p0 p2) ≤ (n_rank p0 p1) := (lg_cmp_ge _ _).mp c_2
      refine lv_iconst (v := 0) hx hb dX0_compared_38 (by decide) ?_
      exact W.iret (v := (0 : Int32)) hx hb hr (fun t ht hW => ⟨_, rfl, (by unfold n_compared; rw [if_pos c_1, if_pos c_2]), ht⟩) (fun _ h => by cases h) dX0_compared_39
    · skip
      have c_2 : ¬ ((n_rank p0 p2) ≤ (n_rank p0 p1)) := fun h => c_2 ((lg_cmp_ge _ _).mpr h)
      refine lv_iconst (v := (-1)) hx hb dX0_compared_34 (by decide) ?_
      refine lv_goto (tgt := 39) hx hb dX0_compared_35 (by decide) ?_
      exact W.iret (v := (-1 : Int32)) hx hb hr (fun t ht hW => ⟨_, rfl, (by unfold n_compared; rw [if_pos c_1, if_neg c_2]), ht⟩) (fun _ h => by cases h) dX0_compared_39
  · skip
    have c_1 : ¬ ((n_rank p0 p1) ≤ (n_rank p0 p2)) := fun h => c_1 ((lg_cmp_le _ _).mpr h)
    refine lv_iconst (v := 1) hx hb dX0_compared_22 (by decide) ?_
    refine lv_goto (tgt := 39) hx hb dX0_compared_23 (by decide) ?_
    exact W.iret (v := (1 : Int32)) hx hb hr (fun t ht hW => ⟨_, rfl, (by unfold n_compared; rw [if_neg c_1]), ht⟩) (fun _ h => by cases h) dX0_compared_39
def n_greater (p0 : Int32) (p1 : Int64) (p2 : Int64) : Int64 :=
  if (n_compared p0 p1 p2) < 0 then p2
  else p1
set_option maxHeartbeats 4000000 in
set_option maxRecDepth 100000 in
theorem c_X0_greater (l : Launch) (p0 : Int32) (p1 : Int64) (p2 : Int64) : Met l yX0_greater wsX0_greater ({ frames := 3, cells := 0, slots := 0, locals := 70 }) (va_Pc [.int p0, .long p1, .long p2] (fun _ => True)) (vp_Sl (fun r => r = n_greater p0 p1 p2)) 0 0 (fun _ => False) := by
  refine Met.ofW (cc := cX0_greater) (maxL := 5) (ret := (some .long)) (by decide) rfl ?_
  intro p e s m args below meth c s₁ B hml hv
  obtain ⟨rfl, -⟩ := hv
  have hx := B.exec
  have hb := B.bytes
  have hr := B.returns
  have hts := atoms_spec (ws := wsX0_greater) B.pre
  have hown : s.vm.findClass RX0 = some m.cls := findClass_of_methodNamed B.named
  have hlocks := B.notSynchronized
  have hl := lv_entry ([.int p0, .long p1, .long p2]) (n := 5) (Nat.le_of_ble_eq_true rfl)
  rw [lg_entry_eq]
  generalize (lg_sl ([.int p0, .long p1, .long p2]) ++ List.replicate (5 - (lg_sl ([.int p0, .long p1, .long p2])).length) Slot.unset).toArray = ls at hl ⊢
  have hl : lv_has ls 5 [(0, .int p0), (1, .long p1), (3, .long p2)] := hl
  refine lv_iload_n hx hb dX0_greater_0 rfl (lv_at hl 0 rfl) ?_
  refine lv_lload_n hx hb dX0_greater_1 rfl (lv_at hl 1 rfl) ?_
  refine lv_lload_n hx hb dX0_greater_2 rfl (lv_at hl 2 rfl) ?_
  refine cs_i (W.runS (As := [.int p0, .long p1, .long p2]) (rest := []) ⟨hx, hb, hml, hown, hts⟩ (c_X0_compared l p0 p1 p2 ) (va_cwS 3 hts gX0_greater_X0_compared rfl rfl rfl (by decide +kernel) ⟨Nat.le_of_ble_eq_true rfl, Nat.le_of_ble_eq_true rfl⟩) fb_s rfl rfl hl.1 rfl (lv_room (Nat.le_of_ble_eq_true rfl)) dX0_greater_3 ⟨Nat.zero_le _, Nat.zero_le _⟩) ?_
  refine lv_if_lt (tgt := 13) hx hb dX0_greater_6 (by decide) (fun c_1 => ?_) (fun c_1 => ?_)
  · skip
    refine lv_lload_n hx hb dX0_greater_13 rfl (lv_at hl 2 rfl) ?_
    exact W.lret (v := p2) hx hb hr (fun t ht hW => ⟨_, rfl, (by unfold n_greater; rw [if_pos c_1]), ht⟩) (fun _ h => by cases h) dX0_greater_14
  · skip
    refine lv_lload_n hx hb dX0_greater_9 rfl (lv_at hl 1 rfl) ?_
    refine lv_goto (tgt := 14) hx hb dX0_greater_10 (by decide) ?_
    exact W.lret (v := p1) hx hb hr (fun t ht hW => ⟨_, rfl, (by unfold n_greater; rw [if_neg c_1]), ht⟩) (fun _ h => by cases h) dX0_greater_14
def n_less (p0 : Int32) (p1 : Int64) (p2 : Int64) : Int64 :=
  if 0 < (n_compared p0 p1 p2) then p2
  else p1
set_option maxHeartbeats 4000000 in
set_option maxRecDepth 100000 in
theorem c_X0_less (l : Launch) (p0 : Int32) (p1 : Int64) (p2 : Int64) : Met l yX0_less wsX0_less ({ frames := 3, cells := 0, slots := 0, locals := 70 }) (va_Pc [.int p0, .long p1, .long p2] (fun _ => True)) (vp_Sl (fun r => r = n_less p0 p1 p2)) 0 0 (fun _ => False) := by
  refine Met.ofW (cc := cX0_less) (maxL := 5) (ret := (some .long)) (by decide) rfl ?_
  intro p e s m args below meth c s₁ B hml hv
  obtain ⟨rfl, -⟩ := hv
  have hx := B.exec
  have hb := B.bytes
  have hr := B.returns
  have hts := atoms_spec (ws := wsX0_less) B.pre
  have hown : s.vm.findClass RX0 = some m.cls := findClass_of_methodNamed B.named
  have hlocks := B.notSynchronized
  have hl := lv_entry ([.int p0, .long p1, .long p2]) (n := 5) (Nat.le_of_ble_eq_true rfl)
  rw [lg_entry_eq]
  generalize (lg_sl ([.int p0, .long p1, .long p2]) ++ List.replicate (5 - (lg_sl ([.int p0, .long p1, .long p2])).length) Slot.unset).toArray = ls at hl ⊢
  have hl : lv_has ls 5 [(0, .int p0), (1, .long p1), (3, .long p2)] := hl
  refine lv_iload_n hx hb dX0_less_0 rfl (lv_at hl 0 rfl) ?_
  refine lv_lload_n hx hb dX0_less_1 rfl (lv_at hl 1 rfl) ?_
  refine lv_lload_n hx hb dX0_less_2 rfl (lv_at hl 2 rfl) ?_
  refine cs_i (W.runS (As := [.int p0, .long p1, .long p2]) (rest := []) ⟨hx, hb, hml, hown, hts⟩ (c_X0_compared l p0 p1 p2 ) (va_cwS 3 hts gX0_less_X0_compared rfl rfl rfl (by decide +kernel) ⟨Nat.le_of_ble_eq_true rfl, Nat.le_of_ble_eq_true rfl⟩) fb_s rfl rfl hl.1 rfl (lv_room (Nat.le_of_ble_eq_true rfl)) dX0_less_3 ⟨Nat.zero_le _, Nat.zero_le _⟩) ?_
  refine lv_if_gt (tgt := 13) hx hb dX0_less_6 (by decide) (fun c_1 => ?_) (fun c_1 => ?_)
  · skip
    refine lv_lload_n hx hb dX0_less_13 rfl (lv_at hl 2 rfl) ?_
    exact W.lret (v := p2) hx hb hr (fun t ht hW => ⟨_, rfl, (by unfold n_less; rw [if_pos c_1]), ht⟩) (fun _ h => by cases h) dX0_less_14
  · skip
    refine lv_lload_n hx hb dX0_less_9 rfl (lv_at hl 1 rfl) ?_
    refine lv_goto (tgt := 14) hx hb dX0_less_10 (by decide) ?_
    exact W.lret (v := p1) hx hb hr (fun t ht hW => ⟨_, rfl, (by unfold n_less; rw [if_neg c_1]), ht⟩) (fun _ h => by cases h) dX0_less_14
def n_fitted (p0 : Int32) (p1 : Int64) (p2 : Int64) (p3 : Int64) : Int64 :=
  (n_greater p0 p1 (n_less p0 p2 p3))
set_option maxHeartbeats 4000000 in
set_option maxRecDepth 100000 in
theorem c_X0_fitted (l : Launch) (p0 : Int32) (p1 : Int64) (p2 : Int64) (p3 : Int64) : Met l yX0_fitted wsX0_fitted ({ frames := 4, cells := 0, slots := 0, locals := 94 }) (va_Pc [.int p0, .long p1, .long p2, .long p3] (fun _ => True)) (vp_Sl (fun r => r = n_fitted p0 p1 p2 p3)) 0 0 (fun _ => False) := by
  refine Met.ofW (cc := cX0_fitted) (maxL := 7) (ret := (some .long)) (by decide) rfl ?_
  intro p e s m args below meth c s₁ B hml hv
  obtain ⟨rfl, -⟩ := hv
  have hx := B.exec
  have hb := B.bytes
  have hr := B.returns
  have hts := atoms_spec (ws := wsX0_fitted) B.pre
  have hown : s.vm.findClass RX0 = some m.cls := findClass_of_methodNamed B.named
  have hlocks := B.notSynchronized
  have hl := lv_entry ([.int p0, .long p1, .long p2, .long p3]) (n := 7) (Nat.le_of_ble_eq_true rfl)
  rw [lg_entry_eq]
  generalize (lg_sl ([.int p0, .long p1, .long p2, .long p3]) ++ List.replicate (7 - (lg_sl ([.int p0, .long p1, .long p2, .long p3])).length) Slot.unset).toArray = ls at hl ⊢
  have hl : lv_has ls 7 [(0, .int p0), (1, .long p1), (3, .long p2), (5, .long p3)] := hl
  refine lv_iload_n hx hb dX0_fitted_0 rfl (lv_at hl 0 rfl) ?_
  refine lv_lload_n hx hb dX0_fitted_1 rfl (lv_at hl 1 rfl) ?_
  refine lv_iload_n hx hb dX0_fitted_2 rfl (lv_at hl 0 rfl) ?_
  refine lv_lload_n hx hb dX0_fitted_3 rfl (lv_at hl 2 rfl) ?_
  refine lv_lload hx hb dX0_fitted_4 (lv_at hl 3 rfl) ?_
  refine cs_l (W.runS (As := [.int p0, .long p2, .long p3]) (rest := [.long p1, .int p0]) ⟨hx, hb, hml, hown, hts⟩ (c_X0_less l p0 p2 p3 ) (va_cwS 3 hts gX0_fitted_X0_less rfl rfl rfl (by decide +kernel) ⟨Nat.le_of_ble_eq_true rfl, Nat.le_of_ble_eq_true rfl⟩) fb_s rfl rfl hl.1 rfl (lv_room (Nat.le_of_ble_eq_true rfl)) dX0_fitted_6 ⟨Nat.zero_le _, Nat.zero_le _⟩) ?_
  refine cs_l (W.runS (As := [.int p0, .long p1, .long (n_less p0 p2 p3)]) (rest := []) ⟨hx, hb, hml, hown, hts⟩ (c_X0_greater l p0 p1 (n_less p0 p2 p3) ) (va_cwS 3 hts gX0_fitted_X0_greater rfl rfl rfl (by decide +kernel) ⟨Nat.le_of_ble_eq_true rfl, Nat.le_of_ble_eq_true rfl⟩) fb_s rfl rfl hl.1 rfl (lv_room (Nat.le_of_ble_eq_true rfl)) dX0_fitted_9 ⟨Nat.zero_le _, Nat.zero_le _⟩) ?_
  exact W.lret (v := (n_greater p0 p1 (n_less p0 p2 p3))) hx hb hr (fun t ht hW => ⟨_, rfl, rfl, ht⟩) (fun _ h => by cases h) dX0_fitted_12
def n_sizeOf (p0 : Int32) (p1 : Int64) : Int64 :=
  if p0 = 0 then (if 0 ≤ p1.toInt32 then p1.toInt32 else 0 - p1.toInt32).toInt64
  else if p0 = 1 then (if 0 < p1 then p1 else -p1)
    else (p1 &&& (n_sizeBits p0))
set_option maxHeartbeats 4000000 in
set_option maxRecDepth 100000 in
theorem c_X0_sizeOf (l : Launch) (p0 : Int32) (p1 : Int64) : Met l yX0_sizeOf wsX0_sizeOf ({ frames := 1, cells := 0, slots := 0, locals := 21 }) (va_Pc [.int p0, .long p1] (fun _ => True)) (vp_Sl (fun r => r = n_sizeOf p0 p1)) 0 0 (fun _ => False) := by
  refine Met.ofW (cc := cX0_sizeOf) (maxL := 3) (ret := (some .long)) (by decide) rfl ?_
  intro p e s m args below meth c s₁ B hml hv
  obtain ⟨rfl, -⟩ := hv
  have hx := B.exec
  have hb := B.bytes
  have hr := B.returns
  have hts := atoms_spec (ws := wsX0_sizeOf) B.pre
  have hown : s.vm.findClass RX0 = some m.cls := findClass_of_methodNamed B.named
  have hlocks := B.notSynchronized
  have k_0 := hts (.methodLink RX0 34 Lib.Math.abs.name) (by decide +kernel)
  have k_1 := hts (.static Lib.Math.abs.name) (by decide +kernel)
  have k_2 := hts (.initialized "java/lang/Math") (by decide +kernel)
  have k_3 := hts (.code Lib.Math.abs.name Lib.Math.abs.code 1 (some .int)) (by decide +kernel)
  have k_4 := hts (.methodLink RX0 40 Lib.MathLoose.abs_long.x) (by decide +kernel)
  have k_5 := hts (.static Lib.MathLoose.abs_long.x) (by decide +kernel)
  have k_6 := hts (.code Lib.MathLoose.abs_long.x Lib.MathLoose.abs_long.code 2 (some .long)) (by decide +kernel)
  have hl := lv_entry ([.int p0, .long p1]) (n := 3) (Nat.le_of_ble_eq_true rfl)
  rw [lg_entry_eq]
  generalize (lg_sl ([.int p0, .long p1]) ++ List.replicate (3 - (lg_sl ([.int p0, .long p1])).length) Slot.unset).toArray = ls at hl ⊢
  have hl : lv_has ls 3 [(0, .int p0), (1, .long p1)] := hl
  refine lv_iload_n hx hb dX0_sizeOf_0 rfl (lv_at hl 0 rfl) ?_
  by_cases c_1 : p0 = 0
  · skip
    refine lv_lookup (off := 27) (tgt := 28) hx hb dX0_sizeOf_1 (by decide) (by rw [c_1]; decide) (by decide) ?_
    refine lv_lload_n hx hb dX0_sizeOf_28 rfl (lv_at hl 1 rfl) ?_
    refine lv_l2i hx hb dX0_sizeOf_29 rfl ?_
    refine va_mabs hx hb (by rw [hml, hl.1]) hown k_0 k_1 k_2 k_3 (Nat.le_of_ble_eq_true rfl) (Nat.le_of_ble_eq_true rfl) (Nat.zero_le _) (Nat.zero_le _) dX0_sizeOf_30 ?_
    refine lv_i2l hx hb dX0_sizeOf_33 rfl ?_
    exact W.lret (v := (if 0 ≤ p1.toInt32 then p1.toInt32 else 0 - p1.toInt32).toInt64) hx hb hr (fun t ht hW => ⟨_, rfl, (by unfold n_sizeOf; rw [if_pos c_1]), ht⟩) (fun _ h => by cases h) dX0_sizeOf_34
  · skip
    by_cases c_2 : p0 = 1
    · skip
      refine lv_lookup (off := 34) (tgt := 35) hx hb dX0_sizeOf_1 (by decide) (by rw [c_2]; decide) (by decide) ?_
      refine lv_lload_n hx hb dX0_sizeOf_35 rfl (lv_at hl 1 rfl) ?_
      refine va_mabs_long hx hb (by rw [hml, hl.1]) hown k_4 k_5 k_2 k_6 (Nat.le_of_ble_eq_true rfl) (Nat.le_of_ble_eq_true rfl) (Nat.zero_le _) (Nat.zero_le _) dX0_sizeOf_36 ?_
      exact W.lret (v := (if 0 < p1 then p1 else -p1)) hx hb hr (fun t ht hW => ⟨_, rfl, (by unfold n_sizeOf; rw [if_neg c_1, if_pos c_2]), ht⟩) (fun _ h => by cases h) dX0_sizeOf_39
    · skip
      refine lv_lookup (off := 39) (tgt := 40) hx hb dX0_sizeOf_1 (by decide) ((lv_osw c_1 (by decide)).trans ((lv_osw c_2 (by decide)).trans rfl)) (by decide) ?_
      refine lv_lload_n hx hb dX0_sizeOf_40 rfl (lv_at hl 1 rfl) ?_
      refine lv_iload_n hx hb dX0_sizeOf_41 rfl (lv_at hl 0 rfl) ?_
      refine cs_l (W.runS (As := [.int p0]) (rest := [.long p1]) ⟨hx, hb, hml, hown, hts⟩ (c_X0_sizeBits l p0 ) (va_cwS 1 hts gX0_sizeOf_X0_sizeBits rfl rfl rfl (by decide +kernel) ⟨Nat.le_of_ble_eq_true rfl, Nat.le_of_ble_eq_true rfl⟩) fb_s rfl rfl hl.1 rfl (lv_room (Nat.le_of_ble_eq_true rfl)) dX0_sizeOf_42 ⟨Nat.zero_le _, Nat.zero_le _⟩) ?_
      refine lv_land hx hb dX0_sizeOf_45 ?_
      exact W.lret (v := (p1 &&& (n_sizeBits p0))) hx hb hr (fun t ht hW => ⟨_, rfl, (by unfold n_sizeOf; rw [if_neg c_1, if_neg c_2]), ht⟩) (fun _ h => by cases h) dX0_sizeOf_46
def n_signed (p0 : Int32) (p1 : Int64) (p2 : Int64) : Int64 :=
  if (0 : Int64) ≤ p2 then (p1 &&& (n_sizeBits p0))
  else (p1 ||| ((n_sizeBits p0) ^^^ (-1 : Int64)))
set_option maxHeartbeats 4000000 in
set_option maxRecDepth 100000 in
theorem c_X0_signed (l : Launch) (p0 : Int32) (p1 : Int64) (p2 : Int64) : Met l yX0_signed wsX0_signed ({ frames := 1, cells := 0, slots := 0, locals := 20 }) (va_Pc [.int p0, .long p1, .long p2] (fun _ => True)) (vp_Sl (fun r => r = n_signed p0 p1 p2)) 0 0 (fun _ => False) := by
  refine Met.ofW (cc := cX0_signed) (maxL := 7) (ret := (some .long)) (by decide) rfl ?_
  intro p e s m args below meth c s₁ B hml hv
  obtain ⟨rfl, -⟩ := hv
  have hx := B.exec
  have hb := B.bytes
  have hr := B.returns
  have hts := atoms_spec (ws := wsX0_signed) B.pre
  have hown : s.vm.findClass RX0 = some m.cls := findClass_of_methodNamed B.named
  have hlocks := B.notSynchronized
  have k_0 := hts (.constantLong RX0 47 (-1)) (by decide +kernel)
  have hl := lv_entry ([.int p0, .long p1, .long p2]) (n := 7) (Nat.le_of_ble_eq_true rfl)
  rw [lg_entry_eq]
  generalize (lg_sl ([.int p0, .long p1, .long p2]) ++ List.replicate (7 - (lg_sl ([.int p0, .long p1, .long p2])).length) Slot.unset).toArray = ls at hl ⊢
  have hl : lv_has ls 7 [(0, .int p0), (1, .long p1), (3, .long p2)] := hl
  refine lv_iload_n hx hb dX0_signed_0 rfl (lv_at hl 0 rfl) ?_
  refine cs_l (W.runS (As := [.int p0]) (rest := []) ⟨hx, hb, hml, hown, hts⟩ (c_X0_sizeBits l p0 ) (va_cwS 1 hts gX0_signed_X0_sizeBits rfl rfl rfl (by decide +kernel) ⟨Nat.le_of_ble_eq_true rfl, Nat.le_of_ble_eq_true rfl⟩) fb_s rfl rfl hl.1 rfl (lv_room (Nat.le_of_ble_eq_true rfl)) dX0_signed_1 ⟨Nat.zero_le _, Nat.zero_le _⟩) ?_
  refine lv_lstore (lv' := [(5, .long (n_sizeBits p0)), (0, .int p0), (1, .long p1), (3, .long p2)]) hx hb dX0_signed_4 hl (by decide) rfl (fun ls hl => ?_)
  refine lv_lload_n hx hb dX0_signed_6 rfl (lv_at hl 3 rfl) ?_
  refine lv_lconst (v := 0) hx hb dX0_signed_7 (by decide) ?_
  refine W.lcmp hx hb dX0_signed_8 ?_
  refine lv_if_ge (tgt := 23) hx hb dX0_signed_9 (by decide) (fun c_1 => ?_) (fun c_1 => ?_)
  · skip
    have c_1 : (0 : Int64) ≤ p2 := (lg_cmp_ge _ _).mp c_1
    refine lv_lload_n hx hb dX0_signed_23 rfl (lv_at hl 2 rfl) ?_
    refine lv_lload hx hb dX0_signed_24 (lv_at hl 0 rfl) ?_
    refine lv_land hx hb dX0_signed_26 ?_
    exact W.lret (v := (p1 &&& (n_sizeBits p0))) hx hb hr (fun t ht hW => ⟨_, rfl, (by unfold n_signed; rw [if_pos c_1]), ht⟩) (fun _ h => by cases h) dX0_signed_27
  · skip
    have c_1 : ¬ ((0 : Int64) ≤ p2) := fun h => c_1 ((lg_cmp_ge _ _).mpr h)
    refine lv_lload_n hx hb dX0_signed_12 rfl (lv_at hl 2 rfl) ?_
    refine lv_lload hx hb dX0_signed_13 (lv_at hl 0 rfl) ?_
    refine lv_ldc2 hx hb hown k_0 dX0_signed_15 ?_
    refine lv_lxor hx hb dX0_signed_18 ?_
    refine lv_lor hx hb dX0_signed_19 ?_
    refine lv_goto (tgt := 27) hx hb dX0_signed_20 (by decide) ?_
    exact W.lret (v := (p1 ||| ((n_sizeBits p0) ^^^ (-1 : Int64)))) hx hb hr (fun t ht hW => ⟨_, rfl, (by unfold n_signed; rw [if_neg c_1]), ht⟩) (fun _ h => by cases h) dX0_signed_27
def n_placesOf (p0 : Int32) : Int32 :=
  if p0 = (2 : Int32) then (23 : Int32)
  else (52 : Int32)
set_option maxHeartbeats 4000000 in
set_option maxRecDepth 100000 in
theorem c_X0_placesOf (l : Launch) (p0 : Int32) : Met l yX0_placesOf wsX0_placesOf ({ frames := 0, cells := 0, slots := 0, locals := 0 }) (va_Pc [.int p0] (fun _ => True)) (vp_Si (fun r => r = n_placesOf p0)) 0 0 (fun _ => False) := by
  refine Met.ofW (cc := cX0_placesOf) (maxL := 1) (ret := (some .int)) (by decide) rfl ?_
  intro p e s m args below meth c s₁ B hml hv
  obtain ⟨rfl, -⟩ := hv
  have hx := B.exec
  have hb := B.bytes
  have hr := B.returns
  have hts := atoms_spec (ws := wsX0_placesOf) B.pre
  have hown : s.vm.findClass RX0 = some m.cls := findClass_of_methodNamed B.named
  have hlocks := B.notSynchronized
  have hl := lv_entry ([.int p0]) (n := 1) (Nat.le_of_ble_eq_true rfl)
  rw [lg_entry_eq]
  generalize (lg_sl ([.int p0]) ++ List.replicate (1 - (lg_sl ([.int p0])).length) Slot.unset).toArray = ls at hl ⊢
  have hl : lv_has ls 1 [(0, .int p0)] := hl
  refine lv_iload_n hx hb dX0_placesOf_0 rfl (lv_at hl 0 rfl) ?_
  refine lv_iconst (v := 2) hx hb dX0_placesOf_1 (by decide) ?_
  refine lv_icmp_ne (tgt := 10) hx hb dX0_placesOf_2 (by decide) (fun c_1 => ?_) (fun c_1 => ?_)
  · skip
    refine lv_bipush (v := 52) hx hb dX0_placesOf_10 (by decide) ?_
    exact W.iret (v := (52 : Int32)) hx hb hr (fun t ht hW => ⟨_, rfl, (by unfold n_placesOf; rw [if_neg c_1]), ht⟩) (fun _ h => by cases h) dX0_placesOf_12
  · skip
    refine lv_bipush (v := 23) hx hb dX0_placesOf_5 (by decide) ?_
    refine lv_goto (tgt := 12) hx hb dX0_placesOf_7 (by decide) ?_
    exact W.iret (v := (23 : Int32)) hx hb hr (fun t ht hW => ⟨_, rfl, (by unfold n_placesOf; rw [if_pos c_1]), ht⟩) (fun _ h => by cases h) dX0_placesOf_12
def n_oneOf (p0 : Int32) : Int64 :=
  if p0 = (2 : Int32) then ((127 : Int64) <<< ((n_placesOf p0).toInt64 &&& 63))
  else ((1023 : Int64) <<< ((n_placesOf p0).toInt64 &&& 63))
set_option maxHeartbeats 4000000 in
set_option maxRecDepth 100000 in
theorem c_X0_oneOf (l : Launch) (p0 : Int32) : Met l yX0_oneOf wsX0_oneOf ({ frames := 1, cells := 0, slots := 0, locals := 20 }) (va_Pc [.int p0] (fun _ => True)) (vp_Sl (fun r => r = n_oneOf p0)) 0 0 (fun _ => False) := by
  refine Met.ofW (cc := cX0_oneOf) (maxL := 1) (ret := (some .long)) (by decide) rfl ?_
  intro p e s m args below meth c s₁ B hml hv
  obtain ⟨rfl, -⟩ := hv
  have hx := B.exec
  have hb := B.bytes
  have hr := B.returns
  have hts := atoms_spec (ws := wsX0_oneOf) B.pre
  have hown : s.vm.findClass RX0 = some m.cls := findClass_of_methodNamed B.named
  have hlocks := B.notSynchronized
  have k_0 := hts (.constantLong RX0 75 (1023)) (by decide +kernel)
  have k_1 := hts (.constantLong RX0 73 (127)) (by decide +kernel)
  have hl := lv_entry ([.int p0]) (n := 1) (Nat.le_of_ble_eq_true rfl)
  rw [lg_entry_eq]
  generalize (lg_sl ([.int p0]) ++ List.replicate (1 - (lg_sl ([.int p0])).length) Slot.unset).toArray = ls at hl ⊢
  have hl : lv_has ls 1 [(0, .int p0)] := hl
  refine lv_iload_n hx hb dX0_oneOf_0 rfl (lv_at hl 0 rfl) ?_
  refine lv_iconst (v := 2) hx hb dX0_oneOf_1 (by decide) ?_
  refine lv_icmp_ne (tgt := 11) hx hb dX0_oneOf_2 (by decide) (fun c_1 => ?_) (fun c_1 => ?_)
  · skip
    refine lv_ldc2 hx hb hown k_0 dX0_oneOf_11 ?_
    refine lv_iload_n hx hb dX0_oneOf_14 rfl (lv_at hl 0 rfl) ?_
    refine cs_i (W.runS (As := [.int p0]) (rest := [.long (1023 : Int64)]) ⟨hx, hb, hml, hown, hts⟩ (c_X0_placesOf l p0 ) (va_cwS 1 hts gX0_oneOf_X0_placesOf rfl rfl rfl (by decide +kernel) ⟨Nat.le_of_ble_eq_true rfl, Nat.le_of_ble_eq_true rfl⟩) fb_s rfl rfl hl.1 rfl (lv_room (Nat.le_of_ble_eq_true rfl)) dX0_oneOf_15 ⟨Nat.zero_le _, Nat.zero_le _⟩) ?_
    refine lv_lshl hx hb dX0_oneOf_18 rfl ?_
    exact W.lret (v := ((1023 : Int64) <<< ((n_placesOf p0).toInt64 &&& 63))) hx hb hr (fun t ht hW => ⟨_, rfl, (by unfold n_oneOf; rw [if_neg c_1]), ht⟩) (fun _ h => by cases h) dX0_oneOf_19
  · skip
    refine lv_ldc2 hx hb hown k_1 dX0_oneOf_5 ?_
    refine lv_goto (tgt := 14) hx hb dX0_oneOf_8 (by decide) ?_
    refine lv_iload_n hx hb dX0_oneOf_14 rfl (lv_at hl 0 rfl) ?_
    refine cs_i (W.runS (As := [.int p0]) (rest := [.long (127 : Int64)]) ⟨hx, hb, hml, hown, hts⟩ (c_X0_placesOf l p0 ) (va_cwS 1 hts gX0_oneOf_X0_placesOf rfl rfl rfl (by decide +kernel) ⟨Nat.le_of_ble_eq_true rfl, Nat.le_of_ble_eq_true rfl⟩) fb_s rfl rfl hl.1 rfl (lv_room (Nat.le_of_ble_eq_true rfl)) dX0_oneOf_15 ⟨Nat.zero_le _, Nat.zero_le _⟩) ?_
    refine lv_lshl hx hb dX0_oneOf_18 rfl ?_
    exact W.lret (v := ((127 : Int64) <<< ((n_placesOf p0).toInt64 &&& 63))) hx hb hr (fun t ht hW => ⟨_, rfl, (by unfold n_oneOf; rw [if_pos c_1]), ht⟩) (fun _ h => by cases h) dX0_oneOf_19
def n_isAway (p0 : Int64) (p1 : Int32) (p2 : Int32) : Int32 :=
  if p1 = 1 then (if (0 : Int64) ≤ p0 then (0 : Int32)
    else (1 : Int32))
  else if p1 = 2 then (if p0 < (0 : Int64) then (0 : Int32)
      else (1 : Int32))
    else p2
set_option maxHeartbeats 4000000 in
set_option maxRecDepth 100000 in
theorem c_X0_isAway (l : Launch) (p0 : Int64) (p1 : Int32) (p2 : Int32) (hz : narrow .boolean (.int p2) = .int p2) : Met l yX0_isAway wsX0_isAway ({ frames := 0, cells := 0, slots := 0, locals := 0 }) (va_Pc [.long p0, .int p1, .int p2] (fun _ => True)) (vp_Si (fun r => r = n_isAway p0 p1 p2)) 0 0 (fun _ => False) := by
  refine Met.ofW (cc := cX0_isAway) (maxL := 4) (ret := (some .boolean)) (by decide) rfl ?_
  intro p e s m args below meth c s₁ B hml hv
  obtain ⟨rfl, -⟩ := hv
  have hx := B.exec
  have hb := B.bytes
  have hr := B.returns
  have hts := atoms_spec (ws := wsX0_isAway) B.pre
  have hown : s.vm.findClass RX0 = some m.cls := findClass_of_methodNamed B.named
  have hlocks := B.notSynchronized
  have hl := lv_entry ([.long p0, .int p1, .int p2]) (n := 4) (Nat.le_of_ble_eq_true rfl)
  rw [lg_entry_eq]
  generalize (lg_sl ([.long p0, .int p1, .int p2]) ++ List.replicate (4 - (lg_sl ([.long p0, .int p1, .int p2])).length) Slot.unset).toArray = ls at hl ⊢
  have hl : lv_has ls 4 [(0, .long p0), (2, .int p1), (3, .int p2)] := hl
  refine lv_iload_n hx hb dX0_isAway_0 rfl (lv_at hl 1 rfl) ?_
  by_cases c_1 : p1 = 1
  · skip
    refine lv_lookup (off := 27) (tgt := 28) hx hb dX0_isAway_1 (by decide) (by rw [c_1]; decide) (by decide) ?_
    refine lv_lload_n hx hb dX0_isAway_28 rfl (lv_at hl 0 rfl) ?_
    refine lv_lconst (v := 0) hx hb dX0_isAway_29 (by decide) ?_
    refine W.lcmp hx hb dX0_isAway_30 ?_
    refine lv_if_ge (tgt := 38) hx hb dX0_isAway_31 (by decide) (fun c_2 => ?_) (fun c_2 => ?_)
    · skip
      have c_2 : (0 : Int64) ≤ p0 := (lg_cmp_ge _ _).mp c_2
      refine lv_iconst (v := 0) hx hb dX0_isAway_38 (by decide) ?_
      exact W.zret (v := (0 : Int32)) hx hb hr (by first | rfl | decide | assumption) (fun t ht hW => ⟨_, rfl, (by unfold n_isAway; rw [if_pos c_1, if_pos c_2]), ht⟩) (fun _ h => by cases h) dX0_isAway_39
    · skip
      have c_2 : ¬ ((0 : Int64) ≤ p0) := fun h => c_2 ((lg_cmp_ge _ _).mpr h)
      refine lv_iconst (v := 1) hx hb dX0_isAway_34 (by decide) ?_
      refine lv_goto (tgt := 39) hx hb dX0_isAway_35 (by decide) ?_
      exact W.zret (v := (1 : Int32)) hx hb hr (by first | rfl | decide | assumption) (fun t ht hW => ⟨_, rfl, (by unfold n_isAway; rw [if_pos c_1, if_neg c_2]), ht⟩) (fun _ h => by cases h) dX0_isAway_39
  · skip
    by_cases c_3 : p1 = 2
    · skip
      refine lv_lookup (off := 39) (tgt := 40) hx hb dX0_isAway_1 (by decide) (by rw [c_3]; decide) (by decide) ?_
      refine lv_lload_n hx hb dX0_isAway_40 rfl (lv_at hl 0 rfl) ?_
      refine lv_lconst (v := 0) hx hb dX0_isAway_41 (by decide) ?_
      refine W.lcmp hx hb dX0_isAway_42 ?_
      refine lv_if_lt (tgt := 50) hx hb dX0_isAway_43 (by decide) (fun c_4 => ?_) (fun c_4 => ?_)
      · skip
        have c_4 : p0 < (0 : Int64) := (lg_cmp_lt _ _).mp c_4
        refine lv_iconst (v := 0) hx hb dX0_isAway_50 (by decide) ?_
        exact W.zret (v := (0 : Int32)) hx hb hr (by first | rfl | decide | assumption) (fun t ht hW => ⟨_, rfl, (by unfold n_isAway; rw [if_neg c_1, if_pos c_3, if_pos c_4]), ht⟩) (fun _ h => by cases h) dX0_isAway_51
      · skip
        have c_4 : ¬ (p0 < (0 : Int64)) := fun h => c_4 ((lg_cmp_lt _ _).mpr h)
        refine lv_iconst (v := 1) hx hb dX0_isAway_46 (by decide) ?_
        refine lv_goto (tgt := 51) hx hb dX0_isAway_47 (by decide) ?_
        exact W.zret (v := (1 : Int32)) hx hb hr (by first | rfl | decide | assumption) (fun t ht hW => ⟨_, rfl, (by unfold n_isAway; rw [if_neg c_1, if_pos c_3, if_neg c_4]), ht⟩) (fun _ h => by cases h) dX0_isAway_51
    · skip
      refine lv_lookup (off := 51) (tgt := 52) hx hb dX0_isAway_1 (by decide) ((lv_osw c_1 (by decide)).trans ((lv_osw c_3 (by decide)).trans rfl)) (by decide) ?_
      refine lv_iload_n hx hb dX0_isAway_52 rfl (lv_at hl 2 rfl) ?_
      exact W.zret (v := p2) hx hb hr (by first | rfl | decide | assumption) (fun t ht hW => ⟨_, rfl, (by unfold n_isAway; rw [if_neg c_1, if_neg c_3]), ht⟩) (fun _ h => by cases h) dX0_isAway_53
