def n_wholeSize_10 (p0 : Int32) (p1 : Int64) (p2 : Int32) (y_1 : Int32) (y_2 : Int64) (y_3 : Int64) (y_5 : Int64) (y_7 : Int64) (y_8 : Int64) (y_9 : Int64) (y_11 : Int32) (y_13 : Int64) (y_14 : Int32) : Int64 :=
  if (n_isAway p1 p2 y_14) = 0 then y_8
  else (y_8 + y_7)
def n_wholeSize_9 (p0 : Int32) (p1 : Int64) (p2 : Int32) (y_1 : Int32) (y_2 : Int64) (y_3 : Int64) (y_5 : Int64) (y_7 : Int64) (y_8 : Int64) (y_9 : Int64) (y_11 : Int32) (y_13 : Int64) : Int64 :=
  (n_wholeSize_10 p0 p1 p2 y_1 y_2 y_3 y_5 y_7 y_8 y_9 y_11 y_13 (if y_13 < y_9 then (1 : Int32) else if y_9 = y_13 then (if y_11 = 0 then (0 : Int32) else (1 : Int32)) else (0 : Int32)))
def n_wholeSize_8 (p0 : Int32) (p1 : Int64) (p2 : Int32) (y_1 : Int32) (y_2 : Int64) (y_3 : Int64) (y_5 : Int64) (y_7 : Int64) (y_8 : Int64) (y_9 : Int64) (y_11 : Int32) : Int64 :=
  (n_wholeSize_9 p0 p1 p2 y_1 y_2 y_3 y_5 y_7 y_8 y_9 y_11 (y_7 >>> ((1 : Int32).toInt64 &&& 63)))
def n_wholeSize_7 (p0 : Int32) (p1 : Int64) (p2 : Int32) (y_1 : Int32) (y_2 : Int64) (y_3 : Int64) (y_5 : Int64) (y_7 : Int64) (y_8 : Int64) (y_9 : Int64) : Int64 :=
  if y_9 = (0 : Int64) then y_2
  else (n_wholeSize_8 p0 p1 p2 y_1 y_2 y_3 y_5 y_7 y_8 y_9 (if (y_8 &&& y_7) = (0 : Int64) then (0 : Int32) else (1 : Int32)))
def n_wholeSize_6 (p0 : Int32) (p1 : Int64) (p2 : Int32) (y_1 : Int32) (y_2 : Int64) (y_3 : Int64) (y_5 : Int64) (y_7 : Int64) (y_8 : Int64) : Int64 :=
  (n_wholeSize_7 p0 p1 p2 y_1 y_2 y_3 y_5 y_7 y_8 (y_2 - y_8))
def n_wholeSize_5 (p0 : Int32) (p1 : Int64) (p2 : Int32) (y_1 : Int32) (y_2 : Int64) (y_3 : Int64) (y_5 : Int64) (y_7 : Int64) : Int64 :=
  (n_wholeSize_6 p0 p1 p2 y_1 y_2 y_3 y_5 y_7 (y_2 &&& (-y_7)))
def n_wholeSize_4 (p0 : Int32) (p1 : Int64) (p2 : Int32) (y_1 : Int32) (y_2 : Int64) (y_3 : Int64) (y_5 : Int64) : Int64 :=
  if y_5 < y_1.toInt64 then (n_wholeSize_5 p0 p1 p2 y_1 y_2 y_3 y_5 ((1 : Int64) <<< (((y_1.toInt64 - y_5).toInt32).toInt64 &&& 63)))
  else y_2
def n_wholeSize_12 (p0 : Int32) (p1 : Int64) (p2 : Int32) (y_1 : Int32) (y_2 : Int64) (y_3 : Int64) (y_19 : Int64) (y_20 : Int32) : Int64 :=
  if (n_isAway p1 p2 y_20) = 0 then (0 : Int64)
  else y_3
def n_wholeSize_11 (p0 : Int32) (p1 : Int64) (p2 : Int32) (y_1 : Int32) (y_2 : Int64) (y_3 : Int64) (y_19 : Int64) : Int64 :=
  (n_wholeSize_12 p0 p1 p2 y_1 y_2 y_3 y_19 (if y_2 ≤ y_19 then (0 : Int32) else (1 : Int32)))
def n_wholeSize_3 (p0 : Int32) (p1 : Int64) (p2 : Int32) (y_1 : Int32) (y_2 : Int64) (y_3 : Int64) : Int64 :=
  if y_3 ≤ y_2 then (n_wholeSize_4 p0 p1 p2 y_1 y_2 y_3 ((y_2 - y_3) >>> (y_1.toInt64 &&& 63)))
  else (n_wholeSize_11 p0 p1 p2 y_1 y_2 y_3 (y_3 - ((1 : Int64) <<< (y_1.toInt64 &&& 63))))
def n_wholeSize_2 (p0 : Int32) (p1 : Int64) (p2 : Int32) (y_1 : Int32) (y_2 : Int64) : Int64 :=
  (n_wholeSize_3 p0 p1 p2 y_1 y_2 (n_oneOf p0))
def n_wholeSize_1 (p0 : Int32) (p1 : Int64) (p2 : Int32) (y_1 : Int32) : Int64 :=
  (n_wholeSize_2 p0 p1 p2 y_1 (n_sizeOf p0 p1))
def n_wholeSize (p0 : Int32) (p1 : Int64) (p2 : Int32) : Int64 :=
  (n_wholeSize_1 p0 p1 p2 (n_placesOf p0))
set_option maxHeartbeats 4000000 in
set_option maxRecDepth 100000 in
theorem c_X0_wholeSize (l : Launch) (p0 : Int32) (p1 : Int64) (p2 : Int32) : Met l yX0_wholeSize wsX0_wholeSize ({ frames := 2, cells := 0, slots := 0, locals := 43 }) (va_Pc [.int p0, .long p1, .int p2] (fun _ => True)) (vp_Sl (fun r => r = n_wholeSize p0 p1 p2)) 0 0 (fun _ => False) := by
  refine Met.ofW (cc := cX0_wholeSize) (maxL := 21) (ret := (some .long)) (by decide) rfl ?_
  intro p e s m args below meth c s₁ B hml hv
  obtain ⟨rfl, -⟩ := hv
  have hx := B.exec
  have hb := B.bytes
  have hr := B.returns
  have hts := atoms_spec (ws := wsX0_wholeSize) B.pre
  have hown : s.vm.findClass RX0 = some m.cls := findClass_of_methodNamed B.named
  have hlocks := B.notSynchronized
  have hl := lv_entry ([.int p0, .long p1, .int p2]) (n := 21) (Nat.le_of_ble_eq_true rfl)
  rw [lg_entry_eq]
  generalize (lg_sl ([.int p0, .long p1, .int p2]) ++ List.replicate (21 - (lg_sl ([.int p0, .long p1, .int p2])).length) Slot.unset).toArray = ls at hl ⊢
  have hl : lv_has ls 21 [(0, .int p0), (1, .long p1), (3, .int p2)] := hl
  refine lv_iload_n hx hb dX0_wholeSize_0 rfl (lv_at hl 0 rfl) ?_
  refine cs_i (W.runS (As := [.int p0]) (rest := []) ⟨hx, hb, hml, hown, hts⟩ (c_X0_placesOf l p0 ) (va_cwS 1 hts gX0_wholeSize_X0_placesOf rfl rfl rfl (by decide +kernel) ⟨Nat.le_of_ble_eq_true rfl, Nat.le_of_ble_eq_true rfl⟩) fb_s rfl rfl hl.1 rfl (lv_room (Nat.le_of_ble_eq_true rfl)) dX0_wholeSize_1 ⟨Nat.zero_le _, Nat.zero_le _⟩) ?_
  refine lv_topi (fun y_1 ey_1 => ?_)
  have q_1 : n_wholeSize p0 p1 p2 = n_wholeSize_1 p0 p1 p2 y_1 := by unfold n_wholeSize; rw [ey_1]
  refine lv_istore (lv' := [(4, .int y_1), (0, .int p0), (1, .long p1), (3, .int p2)]) hx hb dX0_wholeSize_4 hl (by decide) rfl (fun ls hl => ?_)
  refine lv_iload_n hx hb dX0_wholeSize_6 rfl (lv_at hl 1 rfl) ?_
  refine lv_lload_n hx hb dX0_wholeSize_7 rfl (lv_at hl 2 rfl) ?_
  refine cs_l (W.runS (As := [.int p0, .long p1]) (rest := []) ⟨hx, hb, hml, hown, hts⟩ (c_X0_sizeOf l p0 p1 ) (va_cwS 2 hts gX0_wholeSize_X0_sizeOf rfl rfl rfl (by decide +kernel) ⟨Nat.le_of_ble_eq_true rfl, Nat.le_of_ble_eq_true rfl⟩) fb_s rfl rfl hl.1 rfl (lv_room (Nat.le_of_ble_eq_true rfl)) dX0_wholeSize_8 ⟨Nat.zero_le _, Nat.zero_le _⟩) ?_
  refine lv_topl (fun y_2 ey_2 => ?_)
  have q_2 : n_wholeSize p0 p1 p2 = n_wholeSize_2 p0 p1 p2 y_1 y_2 := q_1.trans (by unfold n_wholeSize_1; rw [ey_2])
  refine lv_lstore (lv' := [(5, .long y_2), (4, .int y_1), (0, .int p0), (1, .long p1), (3, .int p2)]) hx hb dX0_wholeSize_11 hl (by decide) rfl (fun ls hl => ?_)
  refine lv_iload_n hx hb dX0_wholeSize_13 rfl (lv_at hl 2 rfl) ?_
  refine cs_l (W.runS (As := [.int p0]) (rest := []) ⟨hx, hb, hml, hown, hts⟩ (c_X0_oneOf l p0 ) (va_cwS 1 hts gX0_wholeSize_X0_oneOf rfl rfl rfl (by decide +kernel) ⟨Nat.le_of_ble_eq_true rfl, Nat.le_of_ble_eq_true rfl⟩) fb_s rfl rfl hl.1 rfl (lv_room (Nat.le_of_ble_eq_true rfl)) dX0_wholeSize_14 ⟨Nat.zero_le _, Nat.zero_le _⟩) ?_
  refine lv_topl (fun y_3 ey_3 => ?_)
  have q_3 : n_wholeSize p0 p1 p2 = n_wholeSize_3 p0 p1 p2 y_1 y_2 y_3 := q_2.trans (by unfold n_wholeSize_2; rw [ey_3])
  refine lv_lstore (lv' := [(7, .long y_3), (5, .long y_2), (4, .int y_1), (0, .int p0), (1, .long p1), (3, .int p2)]) hx hb dX0_wholeSize_17 hl (by decide) rfl (fun ls hl => ?_)
  refine lv_lload hx hb dX0_wholeSize_19 (lv_at hl 1 rfl) ?_
  refine lv_lload hx hb dX0_wholeSize_21 (lv_at hl 0 rfl) ?_
  refine W.lcmp hx hb dX0_wholeSize_23 ?_
  refine lv_if_ge (tgt := 64) hx hb dX0_wholeSize_24 (by decide) (fun c_4 => ?_) (fun c_4 => ?_)
  · skip
    have c_4 : y_3 ≤ y_2 := (lg_cmp_ge _ _).mp c_4
    refine lv_lload hx hb dX0_wholeSize_64 (lv_at hl 1 rfl) ?_
    refine lv_lload hx hb dX0_wholeSize_66 (lv_at hl 0 rfl) ?_
    refine lv_lsub hx hb dX0_wholeSize_68 ?_
    refine lv_iload hx hb dX0_wholeSize_69 (lv_at hl 2 rfl) ?_
    refine lv_lshr hx hb dX0_wholeSize_71 rfl ?_
    refine lv_topl (fun y_5 ey_5 => ?_)
    have q_4 : n_wholeSize p0 p1 p2 = n_wholeSize_4 p0 p1 p2 y_1 y_2 y_3 y_5 := q_3.trans (by unfold n_wholeSize_3; rw [if_pos c_4, ey_5])
    refine lv_lstore (lv' := [(9, .long y_5), (7, .long y_3), (5, .long y_2), (4, .int y_1), (0, .int p0), (1, .long p1), (3, .int p2)]) hx hb dX0_wholeSize_72 hl (by decide) rfl (fun ls hl => ?_)
    refine lv_lload hx hb dX0_wholeSize_74 (lv_at hl 0 rfl) ?_
    refine lv_iload hx hb dX0_wholeSize_76 (lv_at hl 3 rfl) ?_
    refine lv_i2l hx hb dX0_wholeSize_78 rfl ?_
    refine W.lcmp hx hb dX0_wholeSize_79 ?_
    refine lv_if_lt (tgt := 86) hx hb dX0_wholeSize_80 (by decide) (fun c_6 => ?_) (fun c_6 => ?_)
    · skip
      have c_6 : y_5 < y_1.toInt64 := (lg_cmp_lt _ _).mp c_6
      refine lv_lconst (v := 1) hx hb dX0_wholeSize_86 (by decide) ?_
      refine lv_iload hx hb dX0_wholeSize_87 (lv_at hl 3 rfl) ?_
      refine lv_i2l hx hb dX0_wholeSize_89 rfl ?_
      refine lv_lload hx hb dX0_wholeSize_90 (lv_at hl 0 rfl) ?_
      refine lv_lsub hx hb dX0_wholeSize_92 ?_
      refine lv_l2i hx hb dX0_wholeSize_93 rfl ?_
      refine lv_lshl hx hb dX0_wholeSize_94 rfl ?_
      refine lv_topl (fun y_7 ey_7 => ?_)
      have q_5 : n_wholeSize p0 p1 p2 = n_wholeSize_5 p0 p1 p2 y_1 y_2 y_3 y_5 y_7 := q_4.trans (by unfold n_wholeSize_4; rw [if_pos c_6, ey_7])
      refine lv_lstore (lv' := [(11, .long y_7), (9, .long y_5), (7, .long y_3), (5, .long y_2), (4, .int y_1), (0, .int p0), (1, .long p1), (3, .int p2)]) hx hb dX0_wholeSize_95 hl (by decide) rfl (fun ls hl => ?_)
      refine lv_lload hx hb dX0_wholeSize_97 (lv_at hl 3 rfl) ?_
      refine lv_lload hx hb dX0_wholeSize_99 (lv_at hl 0 rfl) ?_
      refine lv_lneg hx hb dX0_wholeSize_101 ?_
      refine lv_land hx hb dX0_wholeSize_102 ?_
      refine lv_topl (fun y_8 ey_8 => ?_)
      have q_6 : n_wholeSize p0 p1 p2 = n_wholeSize_6 p0 p1 p2 y_1 y_2 y_3 y_5 y_7 y_8 := q_5.trans (by unfold n_wholeSize_5; rw [ey_8])
      refine lv_lstore (lv' := [(13, .long y_8), (11, .long y_7), (9, .long y_5), (7, .long y_3), (5, .long y_2), (4, .int y_1), (0, .int p0), (1, .long p1), (3, .int p2)]) hx hb dX0_wholeSize_103 hl (by decide) rfl (fun ls hl => ?_)
      refine lv_lload hx hb dX0_wholeSize_105 (lv_at hl 4 rfl) ?_
      refine lv_lload hx hb dX0_wholeSize_107 (lv_at hl 0 rfl) ?_
      refine lv_lsub hx hb dX0_wholeSize_109 ?_
      refine lv_topl (fun y_9 ey_9 => ?_)
      have q_7 : n_wholeSize p0 p1 p2 = n_wholeSize_7 p0 p1 p2 y_1 y_2 y_3 y_5 y_7 y_8 y_9 := q_6.trans (by unfold n_wholeSize_6; rw [ey_9])
      refine lv_lstore (lv' := [(15, .long y_9), (13, .long y_8), (11, .long y_7), (9, .long y_5), (7, .long y_3), (5, .long y_2), (4, .int y_1), (0, .int p0), (1, .long p1), (3, .int p2)]) hx hb dX0_wholeSize_110 hl (by decide) rfl (fun ls hl => ?_)
      refine lv_lload hx hb dX0_wholeSize_112 (lv_at hl 0 rfl) ?_
      refine lv_lconst (v := 0) hx hb dX0_wholeSize_114 (by decide) ?_
      refine W.lcmp hx hb dX0_wholeSize_115 ?_
      refine lv_if_ne (tgt := 122) hx hb dX0_wholeSize_116 (by decide) (fun c_10 => ?_) (fun c_10 => ?_)
      · skip
        have c_10 : ¬ (y_9 = (0 : Int64)) := fun h => c_10 ((lg_cmp_eq _ _).mpr h)
        refine lv_lload hx hb dX0_wholeSize_122 (lv_at hl 1 rfl) ?_
        refine lv_lload hx hb dX0_wholeSize_124 (lv_at hl 2 rfl) ?_
        refine lv_land hx hb dX0_wholeSize_126 ?_
        refine lv_lconst (v := 0) hx hb dX0_wholeSize_127 (by decide) ?_
        refine W.lcmp hx hb dX0_wholeSize_128 ?_
        refine lv_join (val := if (y_8 &&& y_7) = (0 : Int64) then (0 : Int32) else (1 : Int32)) (g := fun v => F0 m 137 ls (.int v :: [])) (fun y_11 ey_11 => ?_) (fun K_y_11 => ?_)
        · skip
          have q_8 : n_wholeSize p0 p1 p2 = n_wholeSize_8 p0 p1 p2 y_1 y_2 y_3 y_5 y_7 y_8 y_9 y_11 := q_7.trans (by unfold n_wholeSize_7; rw [if_neg c_10, ey_11])
          refine lv_istore (lv' := [(17, .int y_11), (15, .long y_9), (13, .long y_8), (11, .long y_7), (9, .long y_5), (7, .long y_3), (5, .long y_2), (4, .int y_1), (0, .int p0), (1, .long p1), (3, .int p2)]) hx hb dX0_wholeSize_137 hl (by decide) rfl (fun ls hl => ?_)
          refine lv_lload hx hb dX0_wholeSize_139 (lv_at hl 3 rfl) ?_
          refine lv_iconst (v := 1) hx hb dX0_wholeSize_141 (by decide) ?_
          refine lv_lshr hx hb dX0_wholeSize_142 rfl ?_
          refine lv_topl (fun y_13 ey_13 => ?_)
          have q_9 : n_wholeSize p0 p1 p2 = n_wholeSize_9 p0 p1 p2 y_1 y_2 y_3 y_5 y_7 y_8 y_9 y_11 y_13 := q_8.trans (by unfold n_wholeSize_8; rw [ey_13])
          refine lv_lstore (lv' := [(18, .long y_13), (17, .int y_11), (15, .long y_9), (13, .long y_8), (11, .long y_7), (9, .long y_5), (7, .long y_3), (5, .long y_2), (4, .int y_1), (0, .int p0), (1, .long p1), (3, .int p2)]) hx hb dX0_wholeSize_143 hl (by decide) rfl (fun ls hl => ?_)
          refine lv_lload hx hb dX0_wholeSize_145 (lv_at hl 2 rfl) ?_
          refine lv_lload hx hb dX0_wholeSize_147 (lv_at hl 0 rfl) ?_
          refine W.lcmp hx hb dX0_wholeSize_149 ?_
          refine lv_join (val := if y_13 < y_9 then (1 : Int32) else if y_9 = y_13 then (if y_11 = 0 then (0 : Int32) else (1 : Int32)) else (0 : Int32)) (g := fun v => F0 m 171 ls (.int v :: [])) (fun y_14 ey_14 => ?_) (fun K_y_14 => ?_)
          · skip
            have q_10 : n_wholeSize p0 p1 p2 = n_wholeSize_10 p0 p1 p2 y_1 y_2 y_3 y_5 y_7 y_8 y_9 y_11 y_13 y_14 := q_9.trans (by unfold n_wholeSize_9; rw [ey_14])
            refine lv_istore (lv' := [(20, .int y_14), (18, .long y_13), (17, .int y_11), (15, .long y_9), (13, .long y_8), (11, .long y_7), (9, .long y_5), (7, .long y_3), (5, .long y_2), (4, .int y_1), (0, .int p0), (1, .long p1), (3, .int p2)]) hx hb dX0_wholeSize_171 hl (by decide) rfl (fun ls hl => ?_)
            refine lv_lload_n hx hb dX0_wholeSize_173 rfl (lv_at hl 11 rfl) ?_
            refine lv_iload_n hx hb dX0_wholeSize_174 rfl (lv_at hl 12 rfl) ?_
            refine lv_iload hx hb dX0_wholeSize_175 (lv_at hl 0 rfl) ?_
            refine cs_i (W.runS (As := [.long p1, .int p2, .int y_14]) (rest := []) ⟨hx, hb, hml, hown, hts⟩ (c_X0_isAway l p1 p2 y_14 (nz_b (by rw [ey_14]; (repeat' split) <;> first | exact Or.inl rfl | exact Or.inr rfl))) (va_cwS 3 hts gX0_wholeSize_X0_isAway rfl rfl rfl (by decide +kernel) ⟨Nat.le_of_ble_eq_true rfl, Nat.le_of_ble_eq_true rfl⟩) fb_s rfl rfl hl.1 rfl (lv_room (Nat.le_of_ble_eq_true rfl)) dX0_wholeSize_177 ⟨Nat.zero_le _, Nat.zero_le _⟩) ?_
            refine lv_if_eq (tgt := 191) hx hb dX0_wholeSize_180 (by decide) (fun c_18 => ?_) (fun c_18 => ?_)
            · skip
              refine lv_lload hx hb dX0_wholeSize_191 (lv_at hl 4 rfl) ?_
              exact W.lret (v := y_8) hx hb hr (fun t ht hW => ⟨_, rfl, (q_10.trans (by unfold n_wholeSize_10; rw [if_pos c_18])).symm, ht⟩) (fun _ h => by cases h) dX0_wholeSize_193
            · skip
              refine lv_lload hx hb dX0_wholeSize_183 (lv_at hl 4 rfl) ?_
              refine lv_lload hx hb dX0_wholeSize_185 (lv_at hl 5 rfl) ?_
              refine lv_ladd hx hb dX0_wholeSize_187 ?_
              refine lv_goto (tgt := 193) hx hb dX0_wholeSize_188 (by decide) ?_
              exact W.lret (v := (y_8 + y_7)) hx hb hr (fun t ht hW => ⟨_, rfl, (q_10.trans (by unfold n_wholeSize_10; rw [if_neg c_18])).symm, ht⟩) (fun _ h => by cases h) dX0_wholeSize_193
          · skip
            refine lv_if_gt (tgt := 166) hx hb dX0_wholeSize_150 (by decide) (fun c_15 => ?_) (fun c_15 => ?_)
            · skip
              have c_15 : y_13 < y_9 := (lg_cmp_gt _ _).mp c_15
              refine lv_iconst (v := 1) hx hb dX0_wholeSize_166 (by decide) ?_
              refine lv_goto (tgt := 171) hx hb dX0_wholeSize_167 (by decide) ?_
              exact K_y_14 _ (by rw [if_pos c_15])
            · skip
              have c_15 : ¬ (y_13 < y_9) := fun h => c_15 ((lg_cmp_gt _ _).mpr h)
              refine lv_lload hx hb dX0_wholeSize_153 (lv_at hl 2 rfl) ?_
              refine lv_lload hx hb dX0_wholeSize_155 (lv_at hl 0 rfl) ?_
              refine W.lcmp hx hb dX0_wholeSize_157 ?_
              refine lv_if_ne (tgt := 170) hx hb dX0_wholeSize_158 (by decide) (fun c_16 => ?_) (fun c_16 => ?_)
              · skip
                have c_16 : ¬ (y_9 = y_13) := fun h => c_16 ((lg_cmp_eq _ _).mpr h)
                refine lv_iconst (v := 0) hx hb dX0_wholeSize_170 (by decide) ?_
                exact K_y_14 _ (by rw [if_neg c_15, if_neg c_16])
              · skip
                have c_16 : y_9 = y_13 := (lg_cmp_eq _ _).mp c_16
                refine lv_iload hx hb dX0_wholeSize_161 (lv_at hl 1 rfl) ?_
                refine lv_if_eq (tgt := 170) hx hb dX0_wholeSize_163 (by decide) (fun c_17 => ?_) (fun c_17 => ?_)
                · skip
                  refine lv_iconst (v := 0) hx hb dX0_wholeSize_170 (by decide) ?_
                  exact K_y_14 _ (by rw [if_neg c_15, if_pos c_16, if_pos c_17])
                · skip
                  refine lv_iconst (v := 1) hx hb dX0_wholeSize_166 (by decide) ?_
                  refine lv_goto (tgt := 171) hx hb dX0_wholeSize_167 (by decide) ?_
                  exact K_y_14 _ (by rw [if_neg c_15, if_pos c_16, if_neg c_17])
        · skip
          refine lv_if_eq (tgt := 136) hx hb dX0_wholeSize_129 (by decide) (fun c_12 => ?_) (fun c_12 => ?_)
          · skip
            have c_12 : (y_8 &&& y_7) = (0 : Int64) := (lg_cmp_eq _ _).mp c_12
            refine lv_iconst (v := 0) hx hb dX0_wholeSize_136 (by decide) ?_
            exact K_y_11 _ (by rw [if_pos c_12])
          · skip
            have c_12 : ¬ ((y_8 &&& y_7) = (0 : Int64)) := fun h => c_12 ((lg_cmp_eq _ _).mpr h)
            refine lv_iconst (v := 1) hx hb dX0_wholeSize_132 (by decide) ?_
            refine lv_goto (tgt := 137) hx hb dX0_wholeSize_133 (by decide) ?_
            exact K_y_11 _ (by rw [if_neg c_12])
      · skip
        have c_10 : y_9 = (0 : Int64) := (lg_cmp_eq _ _).mp c_10
        refine lv_lload hx hb dX0_wholeSize_119 (lv_at hl 5 rfl) ?_
        exact W.lret (v := y_2) hx hb hr (fun t ht hW => ⟨_, rfl, (q_7.trans (by unfold n_wholeSize_7; rw [if_pos c_10])).symm, ht⟩) (fun _ h => by cases h) dX0_wholeSize_121
    · skip
      have c_6 : ¬ (y_5 < y_1.toInt64) := fun h => c_6 ((lg_cmp_lt _ _).mpr h)
      refine lv_lload hx hb dX0_wholeSize_83 (lv_at hl 2 rfl) ?_
      exact W.lret (v := y_2) hx hb hr (fun t ht hW => ⟨_, rfl, (q_4.trans (by unfold n_wholeSize_4; rw [if_neg c_6])).symm, ht⟩) (fun _ h => by cases h) dX0_wholeSize_85
  · skip
    have c_4 : ¬ (y_3 ≤ y_2) := fun h => c_4 ((lg_cmp_ge _ _).mpr h)
    refine lv_lload hx hb dX0_wholeSize_27 (lv_at hl 0 rfl) ?_
    refine lv_lconst (v := 1) hx hb dX0_wholeSize_29 (by decide) ?_
    refine lv_iload hx hb dX0_wholeSize_30 (lv_at hl 2 rfl) ?_
    refine lv_lshl hx hb dX0_wholeSize_32 rfl ?_
    refine lv_lsub hx hb dX0_wholeSize_33 ?_
    refine lv_topl (fun y_19 ey_19 => ?_)
    have q_11 : n_wholeSize p0 p1 p2 = n_wholeSize_11 p0 p1 p2 y_1 y_2 y_3 y_19 := q_3.trans (by unfold n_wholeSize_3; rw [if_neg c_4, ey_19])
    refine lv_lstore (lv' := [(9, .long y_19), (7, .long y_3), (5, .long y_2), (4, .int y_1), (0, .int p0), (1, .long p1), (3, .int p2)]) hx hb dX0_wholeSize_34 hl (by decide) rfl (fun ls hl => ?_)
    refine lv_lload_n hx hb dX0_wholeSize_36 rfl (lv_at hl 5 rfl) ?_
    refine lv_iload_n hx hb dX0_wholeSize_37 rfl (lv_at hl 6 rfl) ?_
    refine lv_lload hx hb dX0_wholeSize_38 (lv_at hl 2 rfl) ?_
    refine lv_lload hx hb dX0_wholeSize_40 (lv_at hl 0 rfl) ?_
    refine W.lcmp hx hb dX0_wholeSize_42 ?_
    refine lv_join (val := if y_2 ≤ y_19 then (0 : Int32) else (1 : Int32)) (g := fun v => F0 m 51 ls (.int v :: .int p2 :: .long p1 :: [])) (fun y_20 ey_20 => ?_) (fun K_y_20 => ?_)
    · skip
      have q_12 : n_wholeSize p0 p1 p2 = n_wholeSize_12 p0 p1 p2 y_1 y_2 y_3 y_19 y_20 := q_11.trans (by unfold n_wholeSize_11; rw [ey_20])
      refine cs_i (W.runS (As := [.long p1, .int p2, .int y_20]) (rest := []) ⟨hx, hb, hml, hown, hts⟩ (c_X0_isAway l p1 p2 y_20 (nz_b (by rw [ey_20]; (repeat' split) <;> first | exact Or.inl rfl | exact Or.inr rfl))) (va_cwS 3 hts gX0_wholeSize_X0_isAway rfl rfl rfl (by decide +kernel) ⟨Nat.le_of_ble_eq_true rfl, Nat.le_of_ble_eq_true rfl⟩) fb_s rfl rfl hl.1 rfl (lv_room (Nat.le_of_ble_eq_true rfl)) dX0_wholeSize_51 ⟨Nat.zero_le _, Nat.zero_le _⟩) ?_
      refine lv_if_eq (tgt := 62) hx hb dX0_wholeSize_54 (by decide) (fun c_22 => ?_) (fun c_22 => ?_)
      · skip
        refine lv_lconst (v := 0) hx hb dX0_wholeSize_62 (by decide) ?_
        exact W.lret (v := (0 : Int64)) hx hb hr (fun t ht hW => ⟨_, rfl, (q_12.trans (by unfold n_wholeSize_12; rw [if_pos c_22])).symm, ht⟩) (fun _ h => by cases h) dX0_wholeSize_63
      · skip
        refine lv_lload hx hb dX0_wholeSize_57 (lv_at hl 1 rfl) ?_
        refine lv_goto (tgt := 63) hx hb dX0_wholeSize_59 (by decide) ?_
        exact W.lret (v := y_3) hx hb hr (fun t ht hW => ⟨_, rfl, (q_12.trans (by unfold n_wholeSize_12; rw [if_neg c_22])).symm, ht⟩) (fun _ h => by cases h) dX0_wholeSize_63
    · skip
      refine lv_if_le (tgt := 50) hx hb dX0_wholeSize_43 (by decide) (fun c_21 => ?_) (fun c_21 => ?_)
      · skip
        have c_21 : y_2 ≤ y_19 := (lg_cmp_le _ _).mp c_21
        refine lv_iconst (v := 0) hx hb dX0_wholeSize_50 (by decide) ?_
        exact K_y_20 _ (by rw [if_pos c_21])
      · skip
        have c_21 : ¬ (y_2 ≤ y_19) := fun h => c_21 ((lg_cmp_le _ _).mpr h)
        refine lv_iconst (v := 1) hx hb dX0_wholeSize_46 (by decide) ?_
        refine lv_goto (tgt := 51) hx hb dX0_wholeSize_47 (by decide) ?_
        exact K_y_20 _ (by rw [if_neg c_21])
def n_turned (p0 : Int32) (p1 : Int64) (p2 : Int32) : Int64 :=
  if p2 = 0 then (n_sizeOf p0 p1)
  else if (n_sizeOf p0 p1) = (0 : Int64) then p1
    else if p2 = (4 : Int32) then (n_signed p0 (n_oneOf p0) p1)
      else (n_signed p0 (n_wholeSize p0 p1 p2) p1)
set_option maxHeartbeats 4000000 in
set_option maxRecDepth 100000 in
theorem c_X0_turned (l : Launch) (p0 : Int32) (p1 : Int64) (p2 : Int32) : Met l yX0_turned wsX0_turned ({ frames := 3, cells := 0, slots := 0, locals := 83 }) (va_Pc [.int p0, .long p1, .int p2] (fun _ => True)) (vp_Sl (fun r => r = n_turned p0 p1 p2)) 0 0 (fun _ => False) := by
  refine Met.ofW (cc := cX0_turned) (maxL := 4) (ret := (some .long)) (by decide) rfl ?_
  intro p e s m args below meth c s₁ B hml hv
  obtain ⟨rfl, -⟩ := hv
  have hx := B.exec
  have hb := B.bytes
  have hr := B.returns
  have hts := atoms_spec (ws := wsX0_turned) B.pre
  have hown : s.vm.findClass RX0 = some m.cls := findClass_of_methodNamed B.named
  have hlocks := B.notSynchronized
  have hl := lv_entry ([.int p0, .long p1, .int p2]) (n := 4) (Nat.le_of_ble_eq_true rfl)
  rw [lg_entry_eq]
  generalize (lg_sl ([.int p0, .long p1, .int p2]) ++ List.replicate (4 - (lg_sl ([.int p0, .long p1, .int p2])).length) Slot.unset).toArray = ls at hl ⊢
  have hl : lv_has ls 4 [(0, .int p0), (1, .long p1), (3, .int p2)] := hl
  refine lv_iload_n hx hb dX0_turned_0 rfl (lv_at hl 2 rfl) ?_
  refine lv_if_ne (tgt := 10) hx hb dX0_turned_1 (by decide) (fun c_1 => ?_) (fun c_1 => ?_)
  · skip
    refine lv_iload_n hx hb dX0_turned_10 rfl (lv_at hl 0 rfl) ?_
    refine lv_lload_n hx hb dX0_turned_11 rfl (lv_at hl 1 rfl) ?_
    refine cs_l (W.runS (As := [.int p0, .long p1]) (rest := []) ⟨hx, hb, hml, hown, hts⟩ (c_X0_sizeOf l p0 p1 ) (va_cwS 2 hts gX0_turned_X0_sizeOf rfl rfl rfl (by decide +kernel) ⟨Nat.le_of_ble_eq_true rfl, Nat.le_of_ble_eq_true rfl⟩) fb_s rfl rfl hl.1 rfl (lv_room (Nat.le_of_ble_eq_true rfl)) dX0_turned_12 ⟨Nat.zero_le _, Nat.zero_le _⟩) ?_
    refine lv_lconst (v := 0) hx hb dX0_turned_15 (by decide) ?_
    refine W.lcmp hx hb dX0_turned_16 ?_
    refine lv_if_ne (tgt := 22) hx hb dX0_turned_17 (by decide) (fun c_2 => ?_) (fun c_2 => ?_)
    · skip
      have c_2 : ¬ ((n_sizeOf p0 p1) = (0 : Int64)) := fun h => c_2 ((lg_cmp_eq _ _).mpr h)
      refine lv_iload_n hx hb dX0_turned_22 rfl (lv_at hl 2 rfl) ?_
      refine lv_iconst (v := 4) hx hb dX0_turned_23 (by decide) ?_
      refine lv_icmp_ne (tgt := 37) hx hb dX0_turned_24 (by decide) (fun c_3 => ?_) (fun c_3 => ?_)
      · skip
        refine lv_iload_n hx hb dX0_turned_37 rfl (lv_at hl 0 rfl) ?_
        refine lv_iload_n hx hb dX0_turned_38 rfl (lv_at hl 0 rfl) ?_
        refine lv_lload_n hx hb dX0_turned_39 rfl (lv_at hl 1 rfl) ?_
        refine lv_iload_n hx hb dX0_turned_40 rfl (lv_at hl 2 rfl) ?_
        refine cs_l (W.runS (As := [.int p0, .long p1, .int p2]) (rest := [.int p0]) ⟨hx, hb, hml, hown, hts⟩ (c_X0_wholeSize l p0 p1 p2 ) (va_cwS 3 hts gX0_turned_X0_wholeSize rfl rfl rfl (by decide +kernel) ⟨Nat.le_of_ble_eq_true rfl, Nat.le_of_ble_eq_true rfl⟩) fb_s rfl rfl hl.1 rfl (lv_room (Nat.le_of_ble_eq_true rfl)) dX0_turned_41 ⟨Nat.zero_le _, Nat.zero_le _⟩) ?_
        refine lv_lload_n hx hb dX0_turned_44 rfl (lv_at hl 1 rfl) ?_
        refine cs_l (W.runS (As := [.int p0, .long (n_wholeSize p0 p1 p2), .long p1]) (rest := []) ⟨hx, hb, hml, hown, hts⟩ (c_X0_signed l p0 (n_wholeSize p0 p1 p2) p1 ) (va_cwS 3 hts gX0_turned_X0_signed rfl rfl rfl (by decide +kernel) ⟨Nat.le_of_ble_eq_true rfl, Nat.le_of_ble_eq_true rfl⟩) fb_s rfl rfl hl.1 rfl (lv_room (Nat.le_of_ble_eq_true rfl)) dX0_turned_45 ⟨Nat.zero_le _, Nat.zero_le _⟩) ?_
        exact W.lret (v := (n_signed p0 (n_wholeSize p0 p1 p2) p1)) hx hb hr (fun t ht hW => ⟨_, rfl, (by unfold n_turned; rw [if_neg c_1, if_neg c_2, if_neg c_3]), ht⟩) (fun _ h => by cases h) dX0_turned_48
      · skip
        refine lv_iload_n hx hb dX0_turned_27 rfl (lv_at hl 0 rfl) ?_
        refine lv_iload_n hx hb dX0_turned_28 rfl (lv_at hl 0 rfl) ?_
        refine cs_l (W.runS (As := [.int p0]) (rest := [.int p0]) ⟨hx, hb, hml, hown, hts⟩ (c_X0_oneOf l p0 ) (va_cwS 1 hts gX0_turned_X0_oneOf rfl rfl rfl (by decide +kernel) ⟨Nat.le_of_ble_eq_true rfl, Nat.le_of_ble_eq_true rfl⟩) fb_s rfl rfl hl.1 rfl (lv_room (Nat.le_of_ble_eq_true rfl)) dX0_turned_29 ⟨Nat.zero_le _, Nat.zero_le _⟩) ?_
        refine lv_lload_n hx hb dX0_turned_32 rfl (lv_at hl 1 rfl) ?_
        refine cs_l (W.runS (As := [.int p0, .long (n_oneOf p0), .long p1]) (rest := []) ⟨hx, hb, hml, hown, hts⟩ (c_X0_signed l p0 (n_oneOf p0) p1 ) (va_cwS 3 hts gX0_turned_X0_signed rfl rfl rfl (by decide +kernel) ⟨Nat.le_of_ble_eq_true rfl, Nat.le_of_ble_eq_true rfl⟩) fb_s rfl rfl hl.1 rfl (lv_room (Nat.le_of_ble_eq_true rfl)) dX0_turned_33 ⟨Nat.zero_le _, Nat.zero_le _⟩) ?_
        exact W.lret (v := (n_signed p0 (n_oneOf p0) p1)) hx hb hr (fun t ht hW => ⟨_, rfl, (by unfold n_turned; rw [if_neg c_1, if_neg c_2, if_pos c_3]), ht⟩) (fun _ h => by cases h) dX0_turned_36
    · skip
      have c_2 : (n_sizeOf p0 p1) = (0 : Int64) := (lg_cmp_eq _ _).mp c_2
      refine lv_lload_n hx hb dX0_turned_20 rfl (lv_at hl 1 rfl) ?_
      exact W.lret (v := p1) hx hb hr (fun t ht hW => ⟨_, rfl, (by unfold n_turned; rw [if_neg c_1, if_pos c_2]), ht⟩) (fun _ h => by cases h) dX0_turned_21
  · skip
    refine lv_iload_n hx hb dX0_turned_4 rfl (lv_at hl 0 rfl) ?_
    refine lv_lload_n hx hb dX0_turned_5 rfl (lv_at hl 1 rfl) ?_
    refine cs_l (W.runS (As := [.int p0, .long p1]) (rest := []) ⟨hx, hb, hml, hown, hts⟩ (c_X0_sizeOf l p0 p1 ) (va_cwS 2 hts gX0_turned_X0_sizeOf rfl rfl rfl (by decide +kernel) ⟨Nat.le_of_ble_eq_true rfl, Nat.le_of_ble_eq_true rfl⟩) fb_s rfl rfl hl.1 rfl (lv_room (Nat.le_of_ble_eq_true rfl)) dX0_turned_6 ⟨Nat.zero_le _, Nat.zero_le _⟩) ?_
    exact W.lret (v := (n_sizeOf p0 p1)) hx hb hr (fun t ht hW => ⟨_, rfl, (by unfold n_turned; rw [if_pos c_1]), ht⟩) (fun _ h => by cases h) dX0_turned_9
