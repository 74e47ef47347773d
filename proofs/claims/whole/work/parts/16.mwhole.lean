def m_whole_9 (p0 : Int32) (p1 : Int64) (p2 : Int32) (y_1 : Int64) (y_2 : Int32) (y_4 : Int32) (y_6 : Int32) (y_9 : Int32) (y_14 : Int32) (y_15 : Int64) (y_16 : Int64) (y_19 : Int64) : Int64 :=
  (m_signed p0 y_19 p1)
def m_whole_13 (p0 : Int32) (p1 : Int64) (p2 : Int32) (y_1 : Int64) (y_2 : Int32) (y_4 : Int32) (y_6 : Int32) (y_9 : Int32) (y_14 : Int32) (y_15 : Int64) (y_16 : Int64) (y_21 : Int64) (y_22 : Int32) (y_25 : Int32) (y_29 : Int64) : Int64 :=
  (m_signed p0 y_29 p1)
def m_whole_12 (p0 : Int32) (p1 : Int64) (p2 : Int32) (y_1 : Int64) (y_2 : Int32) (y_4 : Int32) (y_6 : Int32) (y_9 : Int32) (y_14 : Int32) (y_15 : Int64) (y_16 : Int64) (y_21 : Int64) (y_22 : Int32) (y_25 : Int32) : Int64 :=
  (m_whole_13 p0 p1 p2 y_1 y_2 y_4 y_6 y_9 y_14 y_15 y_16 y_21 y_22 y_25 (if y_25 = 0 then y_16 else (y_16 + ((1 : Int64) <<< (y_14.toInt64 &&& 63)))))
def m_whole_11 (p0 : Int32) (p1 : Int64) (p2 : Int32) (y_1 : Int64) (y_2 : Int32) (y_4 : Int32) (y_6 : Int32) (y_9 : Int32) (y_14 : Int32) (y_15 : Int64) (y_16 : Int64) (y_21 : Int64) (y_22 : Int32) : Int64 :=
  (m_whole_12 p0 p1 p2 y_1 y_2 y_4 y_6 y_9 y_14 y_15 y_16 y_21 y_22 (if y_21 < y_15 then (1 : Int32) else if y_15 = y_21 then (if y_22 = 0 then (0 : Int32) else (1 : Int32)) else (0 : Int32)))
def m_whole_10 (p0 : Int32) (p1 : Int64) (p2 : Int32) (y_1 : Int64) (y_2 : Int32) (y_4 : Int32) (y_6 : Int32) (y_9 : Int32) (y_14 : Int32) (y_15 : Int64) (y_16 : Int64) (y_21 : Int64) : Int64 :=
  (m_whole_11 p0 p1 p2 y_1 y_2 y_4 y_6 y_9 y_14 y_15 y_16 y_21 (if y_6 = 0 then (1 : Int32) else if ((y_1 >>> (y_14.toInt64 &&& 63)) &&& (1 : Int64)) = (1 : Int64) then (1 : Int32) else (0 : Int32)))
def m_whole_8 (p0 : Int32) (p1 : Int64) (p2 : Int32) (y_1 : Int64) (y_2 : Int32) (y_4 : Int32) (y_6 : Int32) (y_9 : Int32) (y_14 : Int32) (y_15 : Int64) (y_16 : Int64) : Int64 :=
  if y_15 = (0 : Int64) then p1
  else if p2 = (3 : Int32) then (m_whole_10 p0 p1 p2 y_1 y_2 y_4 y_6 y_9 y_14 y_15 y_16 ((1 : Int64) <<< ((y_14 - (1 : Int32)).toInt64 &&& 63)))
    else (m_whole_9 p0 p1 p2 y_1 y_2 y_4 y_6 y_9 y_14 y_15 y_16 (if y_9 = 0 then y_16 else (y_16 + ((1 : Int64) <<< (y_14.toInt64 &&& 63)))))
def m_whole_7 (p0 : Int32) (p1 : Int64) (p2 : Int32) (y_1 : Int64) (y_2 : Int32) (y_4 : Int32) (y_6 : Int32) (y_9 : Int32) (y_14 : Int32) (y_15 : Int64) : Int64 :=
  (m_whole_8 p0 p1 p2 y_1 y_2 y_4 y_6 y_9 y_14 y_15 (y_1 - y_15))
def m_whole_6 (p0 : Int32) (p1 : Int64) (p2 : Int32) (y_1 : Int64) (y_2 : Int32) (y_4 : Int32) (y_6 : Int32) (y_9 : Int32) (y_14 : Int32) : Int64 :=
  (m_whole_7 p0 p1 p2 y_1 y_2 y_4 y_6 y_9 y_14 (y_1 &&& (((1 : Int64) <<< (y_14.toInt64 &&& 63)) - (1 : Int64))))
def m_whole_14 (p0 : Int32) (p1 : Int64) (p2 : Int32) (y_1 : Int64) (y_2 : Int32) (y_4 : Int32) (y_6 : Int32) (y_9 : Int32) (y_32 : Int64) : Int64 :=
  (m_signed p0 y_32 p1)
def m_whole_16 (p0 : Int32) (p1 : Int64) (p2 : Int32) (y_1 : Int64) (y_2 : Int32) (y_4 : Int32) (y_6 : Int32) (y_9 : Int32) (y_34 : Int32) (y_37 : Int64) : Int64 :=
  (m_signed p0 y_37 p1)
def m_whole_15 (p0 : Int32) (p1 : Int64) (p2 : Int32) (y_1 : Int64) (y_2 : Int32) (y_4 : Int32) (y_6 : Int32) (y_9 : Int32) (y_34 : Int32) : Int64 :=
  (m_whole_16 p0 p1 p2 y_1 y_2 y_4 y_6 y_9 y_34 (if y_34 = 0 then (0 : Int64) else (m_one p0)))
def m_whole_5 (p0 : Int32) (p1 : Int64) (p2 : Int32) (y_1 : Int64) (y_2 : Int32) (y_4 : Int32) (y_6 : Int32) (y_9 : Int32) : Int64 :=
  if 0 ≤ y_6 then (m_whole_6 p0 p1 p2 y_1 y_2 y_4 y_6 y_9 (y_2 - y_6))
  else if p2 = (3 : Int32) then (m_whole_15 p0 p1 p2 y_1 y_2 y_4 y_6 y_9 (if y_6 = (-1 : Int32) then (if y_1 ≤ ((m_one p0) - ((1 : Int64) <<< (y_2.toInt64 &&& 63))) then (0 : Int32) else (1 : Int32)) else (0 : Int32)))
    else (m_whole_14 p0 p1 p2 y_1 y_2 y_4 y_6 y_9 (if y_9 = 0 then (0 : Int64) else (m_one p0)))
def m_whole_4 (p0 : Int32) (p1 : Int64) (p2 : Int32) (y_1 : Int64) (y_2 : Int32) (y_4 : Int32) (y_6 : Int32) : Int64 :=
  if y_1 = (0 : Int64) then p1
  else if y_6 < y_2 then (m_whole_5 p0 p1 p2 y_1 y_2 y_4 y_6 (if p2 = (1 : Int32) then (if (0 : Int64) ≤ p1 then (0 : Int32) else (1 : Int32)) else if p1 < (0 : Int64) then (0 : Int32) else (1 : Int32)))
    else p1
def m_whole_3 (p0 : Int32) (p1 : Int64) (p2 : Int32) (y_1 : Int64) (y_2 : Int32) (y_4 : Int32) : Int64 :=
  (m_whole_4 p0 p1 p2 y_1 y_2 y_4 ((y_1 >>> (y_2.toInt64 &&& 63)).toInt32 - y_4))
def m_whole_2 (p0 : Int32) (p1 : Int64) (p2 : Int32) (y_1 : Int64) (y_2 : Int32) : Int64 :=
  (m_whole_3 p0 p1 p2 y_1 y_2 (if p0 = (2 : Int32) then (127 : Int32) else (1023 : Int32)))
def m_whole_1 (p0 : Int32) (p1 : Int64) (p2 : Int32) (y_1 : Int64) : Int64 :=
  (m_whole_2 p0 p1 p2 y_1 (if p0 = (2 : Int32) then (23 : Int32) else (52 : Int32)))
def m_whole (p0 : Int32) (p1 : Int64) (p2 : Int32) : Int64 :=
  (m_whole_1 p0 p1 p2 (m_plain p0 p1))
set_option maxHeartbeats 4000000 in
set_option maxRecDepth 100000 in
theorem c_X3_whole (l : Launch) (dC : Nat → ClassId) (dI : Nat → Nat → Nat) (cI cJ cZ : ClassId) (b : Nat → Nat) (kd : Nat → Int32) (vl : Nat → Int64) (lo : Nat → Int64) (hi : Nat → Int64) (nd : Int32) (so : Nat → Int32) (fr : Nat → Int32) (tg : Nat → Int32) (gn : Nat → Int32) (nr : Int32) (kp : Nat → Int64) (ah : Nat → Int64) (kx : Nat → Int32) (st : Int32) (mo : Int32) (ma : Int32) (fa : Int32) (op : Nat → Int32) (nx : Nat → Int32) (p0 : Int32) (p1 : Int64) (p2 : Int32) : Met l yX3_whole wsX3_whole ({ frames := 1, cells := 0, slots := 0, locals := 25 }) (va_Pc [.ref (b 0), .int p0, .long p1, .int p2] (fun U => va_P (dC, dI) vwCl (wM cI cJ cZ b kd vl lo hi nd so fr tg gn nr kp ah kx st mo ma fa op nx) U.heap ∧ va_K (dC, dI) vwCl (tA cI cJ cZ) U)) (vp_Sl (fun r => r = m_whole p0 p1 p2)) 0 0 (fun _ => False) := by
  refine Met.ofW (cc := cX3_whole) (maxL := 18) (ret := (some .long)) (by decide) rfl ?_
  intro p e s m args below meth c s₁ B hml hv
  obtain ⟨rfl, hP, hK⟩ := hv
  have hx := B.exec
  have hb := B.bytes
  have hr := B.returns
  have hts := atoms_spec (ws := wsX3_whole) B.pre
  have hown : s.vm.findClass RX3 = some m.cls := findClass_of_methodNamed B.named
  have hlocks := B.notSynchronized
  have hl := lv_entry ([.ref (b 0), .int p0, .long p1, .int p2]) (n := 18) (Nat.le_of_ble_eq_true rfl)
  rw [lg_entry_eq]
  generalize (lg_sl ([.ref (b 0), .int p0, .long p1, .int p2]) ++ List.replicate (18 - (lg_sl ([.ref (b 0), .int p0, .long p1, .int p2])).length) Slot.unset).toArray = ls at hl ⊢
  have hl : lv_has ls 18 [(0, .ref (b 0)), (1, .int p0), (2, .long p1), (4, .int p2)] := hl
  refine lv_aload_n hx hb dX3_whole_0 rfl (lv_at hl 0 rfl) ?_
  refine lv_iload_n hx hb dX3_whole_1 rfl (lv_at hl 1 rfl) ?_
  refine lv_lload_n hx hb dX3_whole_2 rfl (lv_at hl 2 rfl) ?_
  refine cs_l (W.runV (As := [.int p0, .long p1]) (rest := []) ⟨hx, hb, hml, hown, hts⟩ (c_X3_plain l dC dI cI cJ cZ b kd vl lo hi nd so fr tg gn nr kp ah kx st mo ma fa op nx p0 p1 ) (cwV 2 hts gX3_whole_X3_plain rfl rfl rfl (by decide +kernel) ⟨Nat.le_of_ble_eq_true rfl, Nat.le_of_ble_eq_true rfl⟩) (fb_v hK hP (va_recv hK hP (ci := 2) (q0 := 0) rfl rfl)) rfl rfl hl.1 rfl (lv_room (Nat.le_of_ble_eq_true rfl)) dX3_whole_3 ⟨Nat.zero_le _, Nat.zero_le _⟩) ?_
  refine lv_topl (fun y_1 ey_1 => ?_)
  have q_1 : m_whole p0 p1 p2 = m_whole_1 p0 p1 p2 y_1 := by unfold m_whole; rw [ey_1]
  refine lv_lstore (lv' := [(5, .long y_1), (0, .ref (b 0)), (1, .int p0), (2, .long p1), (4, .int p2)]) hx hb dX3_whole_6 hl (by decide) rfl (fun ls hl => ?_)
  refine lv_iload_n hx hb dX3_whole_8 rfl (lv_at hl 2 rfl) ?_
  refine lv_iconst (v := 2) hx hb dX3_whole_9 (by decide) ?_
  refine lv_join (val := if p0 = (2 : Int32) then (23 : Int32) else (52 : Int32)) (g := fun v => F0 m 20 ls (.int v :: [])) (fun y_2 ey_2 => ?_) (fun K_y_2 => ?_)
  · skip
    have q_2 : m_whole p0 p1 p2 = m_whole_2 p0 p1 p2 y_1 y_2 := q_1.trans (by unfold m_whole_1; rw [ey_2])
    refine lv_istore (lv' := [(7, .int y_2), (5, .long y_1), (0, .ref (b 0)), (1, .int p0), (2, .long p1), (4, .int p2)]) hx hb dX3_whole_20 hl (by decide) rfl (fun ls hl => ?_)
    refine lv_lload hx hb dX3_whole_22 (lv_at hl 1 rfl) ?_
    refine lv_iload hx hb dX3_whole_24 (lv_at hl 0 rfl) ?_
    refine lv_lshr hx hb dX3_whole_26 rfl ?_
    refine lv_l2i hx hb dX3_whole_27 rfl ?_
    refine lv_iload_n hx hb dX3_whole_28 rfl (lv_at hl 3 rfl) ?_
    refine lv_iconst (v := 2) hx hb dX3_whole_29 (by decide) ?_
    refine lv_join (val := if p0 = (2 : Int32) then (127 : Int32) else (1023 : Int32)) (g := fun v => F0 m 41 ls (.int v :: .int ((y_1 >>> (y_2.toInt64 &&& 63)).toInt32) :: [])) (fun y_4 ey_4 => ?_) (fun K_y_4 => ?_)
    · skip
      have q_3 : m_whole p0 p1 p2 = m_whole_3 p0 p1 p2 y_1 y_2 y_4 := q_2.trans (by unfold m_whole_2; rw [ey_4])
      refine lv_isub hx hb dX3_whole_41 ?_
      refine lv_topi (fun y_6 ey_6 => ?_)
      have q_4 : m_whole p0 p1 p2 = m_whole_4 p0 p1 p2 y_1 y_2 y_4 y_6 := q_3.trans (by unfold m_whole_3; rw [ey_6])
      refine lv_istore (lv' := [(8, .int y_6), (7, .int y_2), (5, .long y_1), (0, .ref (b 0)), (1, .int p0), (2, .long p1), (4, .int p2)]) hx hb dX3_whole_42 hl (by decide) rfl (fun ls hl => ?_)
      refine lv_lload hx hb dX3_whole_44 (lv_at hl 2 rfl) ?_
      refine lv_lconst (v := 0) hx hb dX3_whole_46 (by decide) ?_
      refine W.lcmp hx hb dX3_whole_47 ?_
      refine lv_if_eq (tgt := 58) hx hb dX3_whole_48 (by decide) (fun c_7 => ?_) (fun c_7 => ?_)
      · skip
        have c_7 : y_1 = (0 : Int64) := (lg_cmp_eq _ _).mp c_7
        refine lv_lload_n hx hb dX3_whole_58 rfl (lv_at hl 5 rfl) ?_
        exact W.lret (v := p1) hx hb hr (fun t ht hW => ⟨_, rfl, (q_4.trans (by unfold m_whole_4; rw [if_pos c_7])).symm, ht⟩) (fun _ h => by cases h) dX3_whole_59
      · skip
        have c_7 : ¬ (y_1 = (0 : Int64)) := fun h => c_7 ((lg_cmp_eq _ _).mpr h)
        refine lv_iload hx hb dX3_whole_51 (lv_at hl 0 rfl) ?_
        refine lv_iload hx hb dX3_whole_53 (lv_at hl 1 rfl) ?_
        refine lv_icmp_lt (tgt := 60) hx hb dX3_whole_55 (by decide) (fun c_8 => ?_) (fun c_8 => ?_)
        · skip
          refine lv_iload hx hb dX3_whole_60 (lv_at hl 6 rfl) ?_
          refine lv_iconst (v := 1) hx hb dX3_whole_62 (by decide) ?_
          refine lv_join (val := if p2 = (1 : Int32) then (if (0 : Int64) ≤ p1 then (0 : Int32) else (1 : Int32)) else if p1 < (0 : Int64) then (0 : Int32) else (1 : Int32)) (g := fun v => F0 m 91 ls (.int v :: [])) (fun y_9 ey_9 => ?_) (fun K_y_9 => ?_)
          · skip
            have q_5 : m_whole p0 p1 p2 = m_whole_5 p0 p1 p2 y_1 y_2 y_4 y_6 y_9 := q_4.trans (by unfold m_whole_4; rw [if_neg c_7, if_pos c_8, ey_9])
            refine lv_istore (lv' := [(9, .int y_9), (8, .int y_6), (7, .int y_2), (5, .long y_1), (0, .ref (b 0)), (1, .int p0), (2, .long p1), (4, .int p2)]) hx hb dX3_whole_91 hl (by decide) rfl (fun ls hl => ?_)
            refine lv_iload hx hb dX3_whole_93 (lv_at hl 1 rfl) ?_
            refine lv_if_ge (tgt := 154) hx hb dX3_whole_95 (by decide) (fun c_13 => ?_) (fun c_13 => ?_)
            · skip
              refine lv_iload hx hb dX3_whole_154 (lv_at hl 2 rfl) ?_
              refine lv_iload hx hb dX3_whole_156 (lv_at hl 1 rfl) ?_
              refine lv_isub hx hb dX3_whole_158 ?_
              refine lv_topi (fun y_14 ey_14 => ?_)
              have q_6 : m_whole p0 p1 p2 = m_whole_6 p0 p1 p2 y_1 y_2 y_4 y_6 y_9 y_14 := q_5.trans (by unfold m_whole_5; rw [if_pos c_13, ey_14])
              refine lv_istore (lv' := [(10, .int y_14), (9, .int y_9), (8, .int y_6), (7, .int y_2), (5, .long y_1), (0, .ref (b 0)), (1, .int p0), (2, .long p1), (4, .int p2)]) hx hb dX3_whole_159 hl (by decide) rfl (fun ls hl => ?_)
              refine lv_lload hx hb dX3_whole_161 (lv_at hl 4 rfl) ?_
              refine lv_lconst (v := 1) hx hb dX3_whole_163 (by decide) ?_
              refine lv_iload hx hb dX3_whole_164 (lv_at hl 0 rfl) ?_
              refine lv_lshl hx hb dX3_whole_166 rfl ?_
              refine lv_lconst (v := 1) hx hb dX3_whole_167 (by decide) ?_
              refine lv_lsub hx hb dX3_whole_168 ?_
              refine lv_land hx hb dX3_whole_169 ?_
              refine lv_topl (fun y_15 ey_15 => ?_)
              have q_7 : m_whole p0 p1 p2 = m_whole_7 p0 p1 p2 y_1 y_2 y_4 y_6 y_9 y_14 y_15 := q_6.trans (by unfold m_whole_6; rw [ey_15])
              refine lv_lstore (lv' := [(11, .long y_15), (10, .int y_14), (9, .int y_9), (8, .int y_6), (7, .int y_2), (5, .long y_1), (0, .ref (b 0)), (1, .int p0), (2, .long p1), (4, .int p2)]) hx hb dX3_whole_170 hl (by decide) rfl (fun ls hl => ?_)
              refine lv_lload hx hb dX3_whole_172 (lv_at hl 5 rfl) ?_
              refine lv_lload hx hb dX3_whole_174 (lv_at hl 0 rfl) ?_
              refine lv_lsub hx hb dX3_whole_176 ?_
              refine lv_topl (fun y_16 ey_16 => ?_)
              have q_8 : m_whole p0 p1 p2 = m_whole_8 p0 p1 p2 y_1 y_2 y_4 y_6 y_9 y_14 y_15 y_16 := q_7.trans (by unfold m_whole_7; rw [ey_16])
              refine lv_lstore (lv' := [(13, .long y_16), (11, .long y_15), (10, .int y_14), (9, .int y_9), (8, .int y_6), (7, .int y_2), (5, .long y_1), (0, .ref (b 0)), (1, .int p0), (2, .long p1), (4, .int p2)]) hx hb dX3_whole_177 hl (by decide) rfl (fun ls hl => ?_)
              refine lv_lload hx hb dX3_whole_179 (lv_at hl 1 rfl) ?_
              refine lv_lconst (v := 0) hx hb dX3_whole_181 (by decide) ?_
              refine W.lcmp hx hb dX3_whole_182 ?_
              refine lv_if_ne (tgt := 188) hx hb dX3_whole_183 (by decide) (fun c_17 => ?_) (fun c_17 => ?_)
              · skip
                have c_17 : ¬ (y_15 = (0 : Int64)) := fun h => c_17 ((lg_cmp_eq _ _).mpr h)
                refine lv_iload hx hb dX3_whole_188 (lv_at hl 10 rfl) ?_
                refine lv_iconst (v := 3) hx hb dX3_whole_190 (by decide) ?_
                refine lv_icmp_ne (tgt := 254) hx hb dX3_whole_191 (by decide) (fun c_18 => ?_) (fun c_18 => ?_)
                · skip
                  refine lv_aload_n hx hb dX3_whole_254 rfl (lv_at hl 7 rfl) ?_
                  refine lv_iload_n hx hb dX3_whole_255 rfl (lv_at hl 8 rfl) ?_
                  refine lv_iload hx hb dX3_whole_256 (lv_at hl 3 rfl) ?_
                  refine lv_join (val := if y_9 = 0 then y_16 else (y_16 + ((1 : Int64) <<< (y_14.toInt64 &&& 63)))) (g := fun v => F0 m 273 ls (.long v :: .int p0 :: .ref (b 0) :: [])) (fun y_19 ey_19 => ?_) (fun K_y_19 => ?_)
                  · skip
                    have q_9 : m_whole p0 p1 p2 = m_whole_9 p0 p1 p2 y_1 y_2 y_4 y_6 y_9 y_14 y_15 y_16 y_19 := q_8.trans (by unfold m_whole_8; rw [if_neg c_17, if_neg c_18, ey_19])
                    refine lv_lload_n hx hb dX3_whole_273 rfl (lv_at hl 9 rfl) ?_
                    refine cs_l (W.runV (As := [.int p0, .long y_19, .long p1]) (rest := []) ⟨hx, hb, hml, hown, hts⟩ (c_X3_signed l dC dI cI cJ cZ b kd vl lo hi nd so fr tg gn nr kp ah kx st mo ma fa op nx p0 y_19 p1 ) (cwV 3 hts gX3_whole_X3_signed rfl rfl rfl (by decide +kernel) ⟨Nat.le_of_ble_eq_true rfl, Nat.le_of_ble_eq_true rfl⟩) (fb_v hK hP (va_recv hK hP (ci := 2) (q0 := 0) rfl rfl)) rfl rfl hl.1 rfl (lv_room (Nat.le_of_ble_eq_true rfl)) dX3_whole_274 ⟨Nat.zero_le _, Nat.zero_le _⟩) ?_
                    exact W.lret (v := (m_signed p0 y_19 p1)) hx hb hr (fun t ht hW => ⟨_, rfl, (q_9.trans rfl).symm, ht⟩) (fun _ h => by cases h) dX3_whole_277
                  · skip
                    refine lv_if_eq (tgt := 271) hx hb dX3_whole_258 (by decide) (fun c_20 => ?_) (fun c_20 => ?_)
                    · skip
                      refine lv_lload hx hb dX3_whole_271 (lv_at hl 0 rfl) ?_
                      exact K_y_19 _ (by rw [if_pos c_20])
                    · skip
                      refine lv_lload hx hb dX3_whole_261 (lv_at hl 0 rfl) ?_
                      refine lv_lconst (v := 1) hx hb dX3_whole_263 (by decide) ?_
                      refine lv_iload hx hb dX3_whole_264 (lv_at hl 2 rfl) ?_
                      refine lv_lshl hx hb dX3_whole_266 rfl ?_
                      refine lv_ladd hx hb dX3_whole_267 ?_
                      refine lv_goto (tgt := 273) hx hb dX3_whole_268 (by decide) ?_
                      exact K_y_19 _ (by rw [if_neg c_20])
                · skip
                  refine lv_lconst (v := 1) hx hb dX3_whole_194 (by decide) ?_
                  refine lv_iload hx hb dX3_whole_195 (lv_at hl 2 rfl) ?_
                  refine lv_iconst (v := 1) hx hb dX3_whole_197 (by decide) ?_
                  refine lv_isub hx hb dX3_whole_198 ?_
                  refine lv_lshl hx hb dX3_whole_199 rfl ?_
                  refine lv_topl (fun y_21 ey_21 => ?_)
                  have q_10 : m_whole p0 p1 p2 = m_whole_10 p0 p1 p2 y_1 y_2 y_4 y_6 y_9 y_14 y_15 y_16 y_21 := q_8.trans (by unfold m_whole_8; rw [if_neg c_17, if_pos c_18, ey_21])
                  refine lv_lstore (lv' := [(15, .long y_21), (13, .long y_16), (11, .long y_15), (10, .int y_14), (9, .int y_9), (8, .int y_6), (7, .int y_2), (5, .long y_1), (0, .ref (b 0)), (1, .int p0), (2, .long p1), (4, .int p2)]) hx hb dX3_whole_200 hl (by decide) rfl (fun ls hl => ?_)
                  refine lv_iload hx hb dX3_whole_202 (lv_at hl 5 rfl) ?_
                  refine lv_join (val := if y_6 = 0 then (1 : Int32) else if ((y_1 >>> (y_14.toInt64 &&& 63)) &&& (1 : Int64)) = (1 : Int64) then (1 : Int32) else (0 : Int32)) (g := fun v => F0 m 224 ls (.int v :: [])) (fun y_22 ey_22 => ?_) (fun K_y_22 => ?_)
                  · skip
                    have q_11 : m_whole p0 p1 p2 = m_whole_11 p0 p1 p2 y_1 y_2 y_4 y_6 y_9 y_14 y_15 y_16 y_21 y_22 := q_10.trans (by unfold m_whole_10; rw [ey_22])
                    refine lv_istore (lv' := [(17, .int y_22), (15, .long y_21), (13, .long y_16), (11, .long y_15), (10, .int y_14), (9, .int y_9), (8, .int y_6), (7, .int y_2), (5, .long y_1), (0, .ref (b 0)), (1, .int p0), (2, .long p1), (4, .int p2)]) hx hb dX3_whole_224 hl (by decide) rfl (fun ls hl => ?_)
                    refine lv_lload hx hb dX3_whole_226 (lv_at hl 3 rfl) ?_
                    refine lv_lload hx hb dX3_whole_228 (lv_at hl 1 rfl) ?_
                    refine W.lcmp hx hb dX3_whole_230 ?_
                    refine lv_join (val := if y_21 < y_15 then (1 : Int32) else if y_15 = y_21 then (if y_22 = 0 then (0 : Int32) else (1 : Int32)) else (0 : Int32)) (g := fun v => F0 m 252 ls (.int v :: [])) (fun y_25 ey_25 => ?_) (fun K_y_25 => ?_)
                    · skip
                      have q_12 : m_whole p0 p1 p2 = m_whole_12 p0 p1 p2 y_1 y_2 y_4 y_6 y_9 y_14 y_15 y_16 y_21 y_22 y_25 := q_11.trans (by unfold m_whole_11; rw [ey_25])
                      refine lv_istore (lv' := [(9, .int y_25), (17, .int y_22), (15, .long y_21), (13, .long y_16), (11, .long y_15), (10, .int y_14), (8, .int y_6), (7, .int y_2), (5, .long y_1), (0, .ref (b 0)), (1, .int p0), (2, .long p1), (4, .int p2)]) hx hb dX3_whole_252 hl (by decide) rfl (fun ls hl => ?_)
                      refine lv_aload_n hx hb dX3_whole_254 rfl (lv_at hl 9 rfl) ?_
                      refine lv_iload_n hx hb dX3_whole_255 rfl (lv_at hl 10 rfl) ?_
                      refine lv_iload hx hb dX3_whole_256 (lv_at hl 0 rfl) ?_
                      refine lv_join (val := if y_25 = 0 then y_16 else (y_16 + ((1 : Int64) <<< (y_14.toInt64 &&& 63)))) (g := fun v => F0 m 273 ls (.long v :: .int p0 :: .ref (b 0) :: [])) (fun y_29 ey_29 => ?_) (fun K_y_29 => ?_)
                      · skip
                        have q_13 : m_whole p0 p1 p2 = m_whole_13 p0 p1 p2 y_1 y_2 y_4 y_6 y_9 y_14 y_15 y_16 y_21 y_22 y_25 y_29 := q_12.trans (by unfold m_whole_12; rw [ey_29])
                        refine lv_lload_n hx hb dX3_whole_273 rfl (lv_at hl 11 rfl) ?_
                        refine cs_l (W.runV (As := [.int p0, .long y_29, .long p1]) (rest := []) ⟨hx, hb, hml, hown, hts⟩ (c_X3_signed l dC dI cI cJ cZ b kd vl lo hi nd so fr tg gn nr kp ah kx st mo ma fa op nx p0 y_29 p1 ) (cwV 3 hts gX3_whole_X3_signed rfl rfl rfl (by decide +kernel) ⟨Nat.le_of_ble_eq_true rfl, Nat.le_of_ble_eq_true rfl⟩) (fb_v hK hP (va_recv hK hP (ci := 2) (q0 := 0) rfl rfl)) rfl rfl hl.1 rfl (lv_room (Nat.le_of_ble_eq_true rfl)) dX3_whole_274 ⟨Nat.zero_le _, Nat.zero_le _⟩) ?_
                        exact W.lret (v := (m_signed p0 y_29 p1)) hx hb hr (fun t ht hW => ⟨_, rfl, (q_13.trans rfl).symm, ht⟩) (fun _ h => by cases h) dX3_whole_277
                      · skip
                        refine lv_if_eq (tgt := 271) hx hb dX3_whole_258 (by decide) (fun c_30 => ?_) (fun c_30 => ?_)
                        · skip
                          refine lv_lload hx hb dX3_whole_271 (lv_at hl 3 rfl) ?_
                          exact K_y_29 _ (by rw [if_pos c_30])
                        · skip
                          refine lv_lload hx hb dX3_whole_261 (lv_at hl 3 rfl) ?_
                          refine lv_lconst (v := 1) hx hb dX3_whole_263 (by decide) ?_
                          refine lv_iload hx hb dX3_whole_264 (lv_at hl 5 rfl) ?_
                          refine lv_lshl hx hb dX3_whole_266 rfl ?_
                          refine lv_ladd hx hb dX3_whole_267 ?_
                          refine lv_goto (tgt := 273) hx hb dX3_whole_268 (by decide) ?_
                          exact K_y_29 _ (by rw [if_neg c_30])
                    · skip
                      refine lv_if_gt (tgt := 247) hx hb dX3_whole_231 (by decide) (fun c_26 => ?_) (fun c_26 => ?_)
                      · skip
                        have c_26 : y_21 < y_15 := (lg_cmp_gt _ _).mp c_26
                        refine lv_iconst (v := 1) hx hb dX3_whole_247 (by decide) ?_
                        refine lv_goto (tgt := 252) hx hb dX3_whole_248 (by decide) ?_
                        exact K_y_25 _ (by rw [if_pos c_26])
                      · skip
                        have c_26 : ¬ (y_21 < y_15) := fun h => c_26 ((lg_cmp_gt _ _).mpr h)
                        refine lv_lload hx hb dX3_whole_234 (lv_at hl 3 rfl) ?_
                        refine lv_lload hx hb dX3_whole_236 (lv_at hl 1 rfl) ?_
                        refine W.lcmp hx hb dX3_whole_238 ?_
                        refine lv_if_ne (tgt := 251) hx hb dX3_whole_239 (by decide) (fun c_27 => ?_) (fun c_27 => ?_)
                        · skip
                          have c_27 : ¬ (y_15 = y_21) := fun h => c_27 ((lg_cmp_eq _ _).mpr h)
                          refine lv_iconst (v := 0) hx hb dX3_whole_251 (by decide) ?_
                          exact K_y_25 _ (by rw [if_neg c_26, if_neg c_27])
                        · skip
                          have c_27 : y_15 = y_21 := (lg_cmp_eq _ _).mp c_27
                          refine lv_iload hx hb dX3_whole_242 (lv_at hl 0 rfl) ?_
                          refine lv_if_eq (tgt := 251) hx hb dX3_whole_244 (by decide) (fun c_28 => ?_) (fun c_28 => ?_)
                          · skip
                            refine lv_iconst (v := 0) hx hb dX3_whole_251 (by decide) ?_
                            exact K_y_25 _ (by rw [if_neg c_26, if_pos c_27, if_pos c_28])
                          · skip
                            refine lv_iconst (v := 1) hx hb dX3_whole_247 (by decide) ?_
                            refine lv_goto (tgt := 252) hx hb dX3_whole_248 (by decide) ?_
                            exact K_y_25 _ (by rw [if_neg c_26, if_pos c_27, if_neg c_28])
                  · skip
                    refine lv_if_eq (tgt := 219) hx hb dX3_whole_204 (by decide) (fun c_23 => ?_) (fun c_23 => ?_)
                    · skip
                      refine lv_iconst (v := 1) hx hb dX3_whole_219 (by decide) ?_
                      refine lv_goto (tgt := 224) hx hb dX3_whole_220 (by decide) ?_
                      exact K_y_22 _ (by rw [if_pos c_23])
                    · skip
                      refine lv_lload hx hb dX3_whole_207 (lv_at hl 7 rfl) ?_
                      refine lv_iload hx hb dX3_whole_209 (lv_at hl 3 rfl) ?_
                      refine lv_lshr hx hb dX3_whole_211 rfl ?_
                      refine lv_lconst (v := 1) hx hb dX3_whole_212 (by decide) ?_
                      refine lv_land hx hb dX3_whole_213 ?_
                      refine lv_lconst (v := 1) hx hb dX3_whole_214 (by decide) ?_
                      refine W.lcmp hx hb dX3_whole_215 ?_
                      refine lv_if_ne (tgt := 223) hx hb dX3_whole_216 (by decide) (fun c_24 => ?_) (fun c_24 => ?_)
                      · skip
                        have c_24 : ¬ (((y_1 >>> (y_14.toInt64 &&& 63)) &&& (1 : Int64)) = (1 : Int64)) := fun h => c_24 ((lg_cmp_eq _ _).mpr h)
                        refine lv_iconst (v := 0) hx hb dX3_whole_223 (by decide) ?_
                        exact K_y_22 _ (by rw [if_neg c_23, if_neg c_24])
                      · skip
                        have c_24 : ((y_1 >>> (y_14.toInt64 &&& 63)) &&& (1 : Int64)) = (1 : Int64) := (lg_cmp_eq _ _).mp c_24
                        refine lv_iconst (v := 1) hx hb dX3_whole_219 (by decide) ?_
                        refine lv_goto (tgt := 224) hx hb dX3_whole_220 (by decide) ?_
                        exact K_y_22 _ (by rw [if_neg c_23, if_pos c_24])
              · skip
                have c_17 : y_15 = (0 : Int64) := (lg_cmp_eq _ _).mp c_17
                refine lv_lload_n hx hb dX3_whole_186 rfl (lv_at hl 9 rfl) ?_
                exact W.lret (v := p1) hx hb hr (fun t ht hW => ⟨_, rfl, (q_8.trans (by unfold m_whole_8; rw [if_pos c_17])).symm, ht⟩) (fun _ h => by cases h) dX3_whole_187
            · skip
              refine lv_iload hx hb dX3_whole_98 (lv_at hl 7 rfl) ?_
              refine lv_iconst (v := 3) hx hb dX3_whole_100 (by decide) ?_
              refine lv_icmp_ne (tgt := 133) hx hb dX3_whole_101 (by decide) (fun c_31 => ?_) (fun c_31 => ?_)
              · skip
                refine lv_aload_n hx hb dX3_whole_133 rfl (lv_at hl 4 rfl) ?_
                refine lv_iload_n hx hb dX3_whole_134 rfl (lv_at hl 5 rfl) ?_
                refine lv_iload hx hb dX3_whole_135 (lv_at hl 0 rfl) ?_
                refine lv_join (val := if y_9 = 0 then (0 : Int64) else (m_one p0)) (g := fun v => F0 m 149 ls (.long v :: .int p0 :: .ref (b 0) :: [])) (fun y_32 ey_32 => ?_) (fun K_y_32 => ?_)
                · skip
                  have q_14 : m_whole p0 p1 p2 = m_whole_14 p0 p1 p2 y_1 y_2 y_4 y_6 y_9 y_32 := q_5.trans (by unfold m_whole_5; rw [if_neg c_13, if_neg c_31, ey_32])
                  refine lv_lload_n hx hb dX3_whole_149 rfl (lv_at hl 6 rfl) ?_
                  refine cs_l (W.runV (As := [.int p0, .long y_32, .long p1]) (rest := []) ⟨hx, hb, hml, hown, hts⟩ (c_X3_signed l dC dI cI cJ cZ b kd vl lo hi nd so fr tg gn nr kp ah kx st mo ma fa op nx p0 y_32 p1 ) (cwV 3 hts gX3_whole_X3_signed rfl rfl rfl (by decide +kernel) ⟨Nat.le_of_ble_eq_true rfl, Nat.le_of_ble_eq_true rfl⟩) (fb_v hK hP (va_recv hK hP (ci := 2) (q0 := 0) rfl rfl)) rfl rfl hl.1 rfl (lv_room (Nat.le_of_ble_eq_true rfl)) dX3_whole_150 ⟨Nat.zero_le _, Nat.zero_le _⟩) ?_
                  exact W.lret (v := (m_signed p0 y_32 p1)) hx hb hr (fun t ht hW => ⟨_, rfl, (q_14.trans rfl).symm, ht⟩) (fun _ h => by cases h) dX3_whole_153
                · skip
                  refine lv_if_eq (tgt := 148) hx hb dX3_whole_137 (by decide) (fun c_33 => ?_) (fun c_33 => ?_)
                  · skip
                    refine lv_lconst (v := 0) hx hb dX3_whole_148 (by decide) ?_
                    exact K_y_32 _ (by rw [if_pos c_33])
                  · skip
                    refine lv_aload_n hx hb dX3_whole_140 rfl (lv_at hl 4 rfl) ?_
                    refine lv_iload_n hx hb dX3_whole_141 rfl (lv_at hl 5 rfl) ?_
                    refine cs_l (W.runV (As := [.int p0]) (rest := [.int p0, .ref (b 0)]) ⟨hx, hb, hml, hown, hts⟩ (c_X3_one l dC dI cI cJ cZ b kd vl lo hi nd so fr tg gn nr kp ah kx st mo ma fa op nx p0 ) (cwV 1 hts gX3_whole_X3_one rfl rfl rfl (by decide +kernel) ⟨Nat.le_of_ble_eq_true rfl, Nat.le_of_ble_eq_true rfl⟩) (fb_v hK hP (va_recv hK hP (ci := 2) (q0 := 0) rfl rfl)) rfl rfl hl.1 rfl (lv_room (Nat.le_of_ble_eq_true rfl)) dX3_whole_142 ⟨Nat.zero_le _, Nat.zero_le _⟩) ?_
                    refine lv_goto (tgt := 149) hx hb dX3_whole_145 (by decide) ?_
                    exact K_y_32 _ (by rw [if_neg c_33])
              · skip
                refine lv_iload hx hb dX3_whole_104 (lv_at hl 1 rfl) ?_
                refine lv_iconst (v := (-1)) hx hb dX3_whole_106 (by decide) ?_
                refine lv_join (val := if y_6 = (-1 : Int32) then (if y_1 ≤ ((m_one p0) - ((1 : Int64) <<< (y_2.toInt64 &&& 63))) then (0 : Int32) else (1 : Int32)) else (0 : Int32)) (g := fun v => F0 m 131 ls (.int v :: [])) (fun y_34 ey_34 => ?_) (fun K_y_34 => ?_)
                · skip
                  have q_15 : m_whole p0 p1 p2 = m_whole_15 p0 p1 p2 y_1 y_2 y_4 y_6 y_9 y_34 := q_5.trans (by unfold m_whole_5; rw [if_neg c_13, if_pos c_31, ey_34])
                  refine lv_istore (lv' := [(9, .int y_34), (8, .int y_6), (7, .int y_2), (5, .long y_1), (0, .ref (b 0)), (1, .int p0), (2, .long p1), (4, .int p2)]) hx hb dX3_whole_131 hl (by decide) rfl (fun ls hl => ?_)
                  refine lv_aload_n hx hb dX3_whole_133 rfl (lv_at hl 4 rfl) ?_
                  refine lv_iload_n hx hb dX3_whole_134 rfl (lv_at hl 5 rfl) ?_
                  refine lv_iload hx hb dX3_whole_135 (lv_at hl 0 rfl) ?_
                  refine lv_join (val := if y_34 = 0 then (0 : Int64) else (m_one p0)) (g := fun v => F0 m 149 ls (.long v :: .int p0 :: .ref (b 0) :: [])) (fun y_37 ey_37 => ?_) (fun K_y_37 => ?_)
                  · skip
                    have q_16 : m_whole p0 p1 p2 = m_whole_16 p0 p1 p2 y_1 y_2 y_4 y_6 y_9 y_34 y_37 := q_15.trans (by unfold m_whole_15; rw [ey_37])
                    refine lv_lload_n hx hb dX3_whole_149 rfl (lv_at hl 6 rfl) ?_
                    refine cs_l (W.runV (As := [.int p0, .long y_37, .long p1]) (rest := []) ⟨hx, hb, hml, hown, hts⟩ (c_X3_signed l dC dI cI cJ cZ b kd vl lo hi nd so fr tg gn nr kp ah kx st mo ma fa op nx p0 y_37 p1 ) (cwV 3 hts gX3_whole_X3_signed rfl rfl rfl (by decide +kernel) ⟨Nat.le_of_ble_eq_true rfl, Nat.le_of_ble_eq_true rfl⟩) (fb_v hK hP (va_recv hK hP (ci := 2) (q0 := 0) rfl rfl)) rfl rfl hl.1 rfl (lv_room (Nat.le_of_ble_eq_true rfl)) dX3_whole_150 ⟨Nat.zero_le _, Nat.zero_le _⟩) ?_
                    exact W.lret (v := (m_signed p0 y_37 p1)) hx hb hr (fun t ht hW => ⟨_, rfl, (q_16.trans rfl).symm, ht⟩) (fun _ h => by cases h) dX3_whole_153
                  · skip
                    refine lv_if_eq (tgt := 148) hx hb dX3_whole_137 (by decide) (fun c_38 => ?_) (fun c_38 => ?_)
                    · skip
                      refine lv_lconst (v := 0) hx hb dX3_whole_148 (by decide) ?_
                      exact K_y_37 _ (by rw [if_pos c_38])
                    · skip
                      refine lv_aload_n hx hb dX3_whole_140 rfl (lv_at hl 4 rfl) ?_
                      refine lv_iload_n hx hb dX3_whole_141 rfl (lv_at hl 5 rfl) ?_
                      refine cs_l (W.runV (As := [.int p0]) (rest := [.int p0, .ref (b 0)]) ⟨hx, hb, hml, hown, hts⟩ (c_X3_one l dC dI cI cJ cZ b kd vl lo hi nd so fr tg gn nr kp ah kx st mo ma fa op nx p0 ) (cwV 1 hts gX3_whole_X3_one rfl rfl rfl (by decide +kernel) ⟨Nat.le_of_ble_eq_true rfl, Nat.le_of_ble_eq_true rfl⟩) (fb_v hK hP (va_recv hK hP (ci := 2) (q0 := 0) rfl rfl)) rfl rfl hl.1 rfl (lv_room (Nat.le_of_ble_eq_true rfl)) dX3_whole_142 ⟨Nat.zero_le _, Nat.zero_le _⟩) ?_
                      refine lv_goto (tgt := 149) hx hb dX3_whole_145 (by decide) ?_
                      exact K_y_37 _ (by rw [if_neg c_38])
                · skip
                  refine lv_icmp_ne (tgt := 130) hx hb dX3_whole_107 (by decide) (fun c_35 => ?_) (fun c_35 => ?_)
                  · skip
                    refine lv_iconst (v := 0) hx hb dX3_whole_130 (by decide) ?_
                    exact K_y_34 _ (by rw [if_neg c_35])
                  · skip
                    refine lv_lload hx hb dX3_whole_110 (lv_at hl 3 rfl) ?_
                    refine lv_aload_n hx hb dX3_whole_112 rfl (lv_at hl 4 rfl) ?_
                    refine lv_iload_n hx hb dX3_whole_113 rfl (lv_at hl 5 rfl) ?_
                    refine cs_l (W.runV (As := [.int p0]) (rest := [.long y_1]) ⟨hx, hb, hml, hown, hts⟩ (c_X3_one l dC dI cI cJ cZ b kd vl lo hi nd so fr tg gn nr kp ah kx st mo ma fa op nx p0 ) (cwV 1 hts gX3_whole_X3_one rfl rfl rfl (by decide +kernel) ⟨Nat.le_of_ble_eq_true rfl, Nat.le_of_ble_eq_true rfl⟩) (fb_v hK hP (va_recv hK hP (ci := 2) (q0 := 0) rfl rfl)) rfl rfl hl.1 rfl (lv_room (Nat.le_of_ble_eq_true rfl)) dX3_whole_114 ⟨Nat.zero_le _, Nat.zero_le _⟩) ?_
                    refine lv_lconst (v := 1) hx hb dX3_whole_117 (by decide) ?_
                    refine lv_iload hx hb dX3_whole_118 (lv_at hl 2 rfl) ?_
                    refine lv_lshl hx hb dX3_whole_120 rfl ?_
                    refine lv_lsub hx hb dX3_whole_121 ?_
                    refine W.lcmp hx hb dX3_whole_122 ?_
                    refine lv_if_le (tgt := 130) hx hb dX3_whole_123 (by decide) (fun c_36 => ?_) (fun c_36 => ?_)
                    · skip
                      have c_36 : y_1 ≤ ((m_one p0) - ((1 : Int64) <<< (y_2.toInt64 &&& 63))) := (lg_cmp_le _ _).mp c_36
                      refine lv_iconst (v := 0) hx hb dX3_whole_130 (by decide) ?_
                      exact K_y_34 _ (by rw [if_pos c_35, if_pos c_36])
                    · skip
                      have c_36 : ¬ (y_1 ≤ ((m_one p0) - ((1 : Int64) <<< (y_2.toInt64 &&& 63)))) := fun h => c_36 ((lg_cmp_le _ _).mpr h)
                      refine lv_iconst (v := 1) hx hb dX3_whole_126 (by decide) ?_
                      refine lv_goto (tgt := 131) hx hb dX3_whole_127 (by decide) ?_
                      exact K_y_34 _ (by rw [if_pos c_35, if_neg c_36])
          · skip
            refine lv_icmp_ne (tgt := 80) hx hb dX3_whole_63 (by decide) (fun c_10 => ?_) (fun c_10 => ?_)
            · skip
              refine lv_lload_n hx hb dX3_whole_80 rfl (lv_at hl 5 rfl) ?_
              refine lv_lconst (v := 0) hx hb dX3_whole_81 (by decide) ?_
              refine W.lcmp hx hb dX3_whole_82 ?_
              refine lv_if_lt (tgt := 90) hx hb dX3_whole_83 (by decide) (fun c_11 => ?_) (fun c_11 => ?_)
              · skip
                have c_11 : p1 < (0 : Int64) := (lg_cmp_lt _ _).mp c_11
                refine lv_iconst (v := 0) hx hb dX3_whole_90 (by decide) ?_
                exact K_y_9 _ (by rw [if_neg c_10, if_pos c_11])
              · skip
                have c_11 : ¬ (p1 < (0 : Int64)) := fun h => c_11 ((lg_cmp_lt _ _).mpr h)
                refine lv_iconst (v := 1) hx hb dX3_whole_86 (by decide) ?_
                refine lv_goto (tgt := 91) hx hb dX3_whole_87 (by decide) ?_
                exact K_y_9 _ (by rw [if_neg c_10, if_neg c_11])
            · skip
              refine lv_lload_n hx hb dX3_whole_66 rfl (lv_at hl 5 rfl) ?_
              refine lv_lconst (v := 0) hx hb dX3_whole_67 (by decide) ?_
              refine W.lcmp hx hb dX3_whole_68 ?_
              refine lv_if_ge (tgt := 76) hx hb dX3_whole_69 (by decide) (fun c_12 => ?_) (fun c_12 => ?_)
              · skip
                have c_12 : (0 : Int64) ≤ p1 := (lg_cmp_ge _ _).mp c_12
                refine lv_iconst (v := 0) hx hb dX3_whole_76 (by decide) ?_
                refine lv_goto (tgt := 91) hx hb dX3_whole_77 (by decide) ?_
                exact K_y_9 _ (by rw [if_pos c_10, if_pos c_12])
              · skip
                have c_12 : ¬ ((0 : Int64) ≤ p1) := fun h => c_12 ((lg_cmp_ge _ _).mpr h)
                refine lv_iconst (v := 1) hx hb dX3_whole_72 (by decide) ?_
                refine lv_goto (tgt := 91) hx hb dX3_whole_73 (by decide) ?_
                exact K_y_9 _ (by rw [if_pos c_10, if_neg c_12])
        · skip
          refine lv_lload_n hx hb dX3_whole_58 rfl (lv_at hl 5 rfl) ?_
          exact W.lret (v := p1) hx hb hr (fun t ht hW => ⟨_, rfl, (q_4.trans (by unfold m_whole_4; rw [if_neg c_7, if_neg c_8])).symm, ht⟩) (fun _ h => by cases h) dX3_whole_59
    · skip
      refine lv_icmp_ne (tgt := 38) hx hb dX3_whole_30 (by decide) (fun c_5 => ?_) (fun c_5 => ?_)
      · skip
        refine lv_sipush (v := 1023) hx hb dX3_whole_38 (by decide) ?_
        exact K_y_4 _ (by rw [if_neg c_5])
      · skip
        refine lv_bipush (v := 127) hx hb dX3_whole_33 (by decide) ?_
        refine lv_goto (tgt := 41) hx hb dX3_whole_35 (by decide) ?_
        exact K_y_4 _ (by rw [if_pos c_5])
  · skip
    refine lv_icmp_ne (tgt := 18) hx hb dX3_whole_10 (by decide) (fun c_3 => ?_) (fun c_3 => ?_)
    · skip
      refine lv_bipush (v := 52) hx hb dX3_whole_18 (by decide) ?_
      exact K_y_2 _ (by rw [if_neg c_3])
    · skip
      refine lv_bipush (v := 23) hx hb dX3_whole_13 (by decide) ?_
      refine lv_goto (tgt := 20) hx hb dX3_whole_15 (by decide) ?_
      exact K_y_2 _ (by rw [if_pos c_3])
def m_turned (p0 : Int32) (p1 : Int64) (p2 : Int32) : Int64 :=
  if p2 = 0 then (m_sizeOf p0 p1)
  else if (4 : Int32) ≤ p2 then (if (m_plain p0 p1) = (0 : Int64) then p1
      else (m_signed p0 (m_one p0) p1))
    else (m_whole p0 p1 p2)
set_option maxHeartbeats 4000000 in
set_option maxRecDepth 100000 in
theorem c_X3_turned (l : Launch) (dC : Nat → ClassId) (dI : Nat → Nat → Nat) (cI cJ cZ : ClassId) (b : Nat → Nat) (kd : Nat → Int32) (vl : Nat → Int64) (lo : Nat → Int64) (hi : Nat → Int64) (nd : Int32) (so : Nat → Int32) (fr : Nat → Int32) (tg : Nat → Int32) (gn : Nat → Int32) (nr : Int32) (kp : Nat → Int64) (ah : Nat → Int64) (kx : Nat → Int32) (st : Int32) (mo : Int32) (ma : Int32) (fa : Int32) (op : Nat → Int32) (nx : Nat → Int32) (p0 : Int32) (p1 : Int64) (p2 : Int32) : Met l yX3_turned wsX3_turned ({ frames := 2, cells := 0, slots := 0, locals := 62 }) (va_Pc [.ref (b 0), .int p0, .long p1, .int p2] (fun U => va_P (dC, dI) vwCl (wM cI cJ cZ b kd vl lo hi nd so fr tg gn nr kp ah kx st mo ma fa op nx) U.heap ∧ va_K (dC, dI) vwCl (tA cI cJ cZ) U)) (vp_Sl (fun r => r = m_turned p0 p1 p2)) 0 0 (fun _ => False) := by
  refine Met.ofW (cc := cX3_turned) (maxL := 5) (ret := (some .long)) (by decide) rfl ?_
  intro p e s m args below meth c s₁ B hml hv
  obtain ⟨rfl, hP, hK⟩ := hv
  have hx := B.exec
  have hb := B.bytes
  have hr := B.returns
  have hts := atoms_spec (ws := wsX3_turned) B.pre
  have hown : s.vm.findClass RX3 = some m.cls := findClass_of_methodNamed B.named
  have hlocks := B.notSynchronized
  have hl := lv_entry ([.ref (b 0), .int p0, .long p1, .int p2]) (n := 5) (Nat.le_of_ble_eq_true rfl)
  rw [lg_entry_eq]
  generalize (lg_sl ([.ref (b 0), .int p0, .long p1, .int p2]) ++ List.replicate (5 - (lg_sl ([.ref (b 0), .int p0, .long p1, .int p2])).length) Slot.unset).toArray = ls at hl ⊢
  have hl : lv_has ls 5 [(0, .ref (b 0)), (1, .int p0), (2, .long p1), (4, .int p2)] := hl
  refine lv_iload hx hb dX3_turned_0 (lv_at hl 3 rfl) ?_
  refine lv_if_ne (tgt := 12) hx hb dX3_turned_2 (by decide) (fun c_1 => ?_) (fun c_1 => ?_)
  · skip
    refine lv_iload hx hb dX3_turned_12 (lv_at hl 3 rfl) ?_
    refine lv_iconst (v := 4) hx hb dX3_turned_14 (by decide) ?_
    refine lv_icmp_ge (tgt := 27) hx hb dX3_turned_15 (by decide) (fun c_2 => ?_) (fun c_2 => ?_)
    · skip
      refine lv_aload_n hx hb dX3_turned_27 rfl (lv_at hl 0 rfl) ?_
      refine lv_iload_n hx hb dX3_turned_28 rfl (lv_at hl 1 rfl) ?_
      refine lv_lload_n hx hb dX3_turned_29 rfl (lv_at hl 2 rfl) ?_
      refine cs_l (W.runV (As := [.int p0, .long p1]) (rest := []) ⟨hx, hb, hml, hown, hts⟩ (c_X3_plain l dC dI cI cJ cZ b kd vl lo hi nd so fr tg gn nr kp ah kx st mo ma fa op nx p0 p1 ) (cwV 2 hts gX3_turned_X3_plain rfl rfl rfl (by decide +kernel) ⟨Nat.le_of_ble_eq_true rfl, Nat.le_of_ble_eq_true rfl⟩) (fb_v hK hP (va_recv hK hP (ci := 2) (q0 := 0) rfl rfl)) rfl rfl hl.1 rfl (lv_room (Nat.le_of_ble_eq_true rfl)) dX3_turned_30 ⟨Nat.zero_le _, Nat.zero_le _⟩) ?_
      refine lv_lconst (v := 0) hx hb dX3_turned_33 (by decide) ?_
      refine W.lcmp hx hb dX3_turned_34 ?_
      refine lv_if_ne (tgt := 42) hx hb dX3_turned_35 (by decide) (fun c_3 => ?_) (fun c_3 => ?_)
      · skip
        have c_3 : ¬ ((m_plain p0 p1) = (0 : Int64)) := fun h => c_3 ((lg_cmp_eq _ _).mpr h)
        refine lv_aload_n hx hb dX3_turned_42 rfl (lv_at hl 0 rfl) ?_
        refine lv_iload_n hx hb dX3_turned_43 rfl (lv_at hl 1 rfl) ?_
        refine lv_aload_n hx hb dX3_turned_44 rfl (lv_at hl 0 rfl) ?_
        refine lv_iload_n hx hb dX3_turned_45 rfl (lv_at hl 1 rfl) ?_
        refine cs_l (W.runV (As := [.int p0]) (rest := [.int p0, .ref (b 0)]) ⟨hx, hb, hml, hown, hts⟩ (c_X3_one l dC dI cI cJ cZ b kd vl lo hi nd so fr tg gn nr kp ah kx st mo ma fa op nx p0 ) (cwV 1 hts gX3_turned_X3_one rfl rfl rfl (by decide +kernel) ⟨Nat.le_of_ble_eq_true rfl, Nat.le_of_ble_eq_true rfl⟩) (fb_v hK hP (va_recv hK hP (ci := 2) (q0 := 0) rfl rfl)) rfl rfl hl.1 rfl (lv_room (Nat.le_of_ble_eq_true rfl)) dX3_turned_46 ⟨Nat.zero_le _, Nat.zero_le _⟩) ?_
        refine lv_lload_n hx hb dX3_turned_49 rfl (lv_at hl 2 rfl) ?_
        refine cs_l (W.runV (As := [.int p0, .long (m_one p0), .long p1]) (rest := []) ⟨hx, hb, hml, hown, hts⟩ (c_X3_signed l dC dI cI cJ cZ b kd vl lo hi nd so fr tg gn nr kp ah kx st mo ma fa op nx p0 (m_one p0) p1 ) (cwV 3 hts gX3_turned_X3_signed rfl rfl rfl (by decide +kernel) ⟨Nat.le_of_ble_eq_true rfl, Nat.le_of_ble_eq_true rfl⟩) (fb_v hK hP (va_recv hK hP (ci := 2) (q0 := 0) rfl rfl)) rfl rfl hl.1 rfl (lv_room (Nat.le_of_ble_eq_true rfl)) dX3_turned_50 ⟨Nat.zero_le _, Nat.zero_le _⟩) ?_
        exact W.lret (v := (m_signed p0 (m_one p0) p1)) hx hb hr (fun t ht hW => ⟨_, rfl, (by unfold m_turned; rw [if_neg c_1, if_pos c_2, if_neg c_3]), ht⟩) (fun _ h => by cases h) dX3_turned_53
      · skip
        have c_3 : (m_plain p0 p1) = (0 : Int64) := (lg_cmp_eq _ _).mp c_3
        refine lv_lload_n hx hb dX3_turned_38 rfl (lv_at hl 2 rfl) ?_
        refine lv_goto (tgt := 53) hx hb dX3_turned_39 (by decide) ?_
        exact W.lret (v := p1) hx hb hr (fun t ht hW => ⟨_, rfl, (by unfold m_turned; rw [if_neg c_1, if_pos c_2, if_pos c_3]), ht⟩) (fun _ h => by cases h) dX3_turned_53
    · skip
      refine lv_aload_n hx hb dX3_turned_18 rfl (lv_at hl 0 rfl) ?_
      refine lv_iload_n hx hb dX3_turned_19 rfl (lv_at hl 1 rfl) ?_
      refine lv_lload_n hx hb dX3_turned_20 rfl (lv_at hl 2 rfl) ?_
      refine lv_iload hx hb dX3_turned_21 (lv_at hl 3 rfl) ?_
      refine cs_l (W.runV (As := [.int p0, .long p1, .int p2]) (rest := []) ⟨hx, hb, hml, hown, hts⟩ (c_X3_whole l dC dI cI cJ cZ b kd vl lo hi nd so fr tg gn nr kp ah kx st mo ma fa op nx p0 p1 p2 ) (cwV 3 hts gX3_turned_X3_whole rfl rfl rfl (by decide +kernel) ⟨Nat.le_of_ble_eq_true rfl, Nat.le_of_ble_eq_true rfl⟩) (fb_v hK hP (va_recv hK hP (ci := 2) (q0 := 0) rfl rfl)) rfl rfl hl.1 rfl (lv_room (Nat.le_of_ble_eq_true rfl)) dX3_turned_23 ⟨Nat.zero_le _, Nat.zero_le _⟩) ?_
      exact W.lret (v := (m_whole p0 p1 p2)) hx hb hr (fun t ht hW => ⟨_, rfl, (by unfold m_turned; rw [if_neg c_1, if_neg c_2]), ht⟩) (fun _ h => by cases h) dX3_turned_26
  · skip
    refine lv_aload_n hx hb dX3_turned_5 rfl (lv_at hl 0 rfl) ?_
    refine lv_iload_n hx hb dX3_turned_6 rfl (lv_at hl 1 rfl) ?_
    refine lv_lload_n hx hb dX3_turned_7 rfl (lv_at hl 2 rfl) ?_
    refine cs_l (W.runV (As := [.int p0, .long p1]) (rest := []) ⟨hx, hb, hml, hown, hts⟩ (c_X3_sizeOf l dC dI cI cJ cZ b kd vl lo hi nd so fr tg gn nr kp ah kx st mo ma fa op nx p0 p1 ) (cwV 2 hts gX3_turned_X3_sizeOf rfl rfl rfl (by decide +kernel) ⟨Nat.le_of_ble_eq_true rfl, Nat.le_of_ble_eq_true rfl⟩) (fb_v hK hP (va_recv hK hP (ci := 2) (q0 := 0) rfl rfl)) rfl rfl hl.1 rfl (lv_room (Nat.le_of_ble_eq_true rfl)) dX3_turned_8 ⟨Nat.zero_le _, Nat.zero_le _⟩) ?_
    exact W.lret (v := (m_sizeOf p0 p1)) hx hb hr (fun t ht hW => ⟨_, rfl, (by unfold m_turned; rw [if_pos c_1]), ht⟩) (fun _ h => by cases h) dX3_turned_11
