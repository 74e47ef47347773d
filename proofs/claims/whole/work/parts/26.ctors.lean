theorem cls_I {D : va_G} {cl : List vw_C} {cI cJ cZ cA : ClassId} {U : State} (hK : va_K D cl (tA cI cJ cZ ++ [(cA, .int)]) U) : cI = cA := by
  have h1 : U.vm.findClass ("[" ++ FieldType.int.toString) = some cI := (hK.2 0 (cI, .int) rfl).2
  have h2 : U.vm.findClass ("[" ++ FieldType.int.toString) = some cA := (hK.2 3 (cA, .int) rfl).2
  exact Option.some.inj (h1.symm.trans h2)
theorem cls_J {D : va_G} {cl : List vw_C} {cI cJ cZ cA : ClassId} {U : State} (hK : va_K D cl (tA cI cJ cZ ++ [(cA, .long)]) U) : cJ = cA := by
  have h1 : U.vm.findClass ("[" ++ FieldType.long.toString) = some cJ := (hK.2 1 (cJ, .long) rfl).2
  have h2 : U.vm.findClass ("[" ++ FieldType.long.toString) = some cA := (hK.2 3 (cA, .long) rfl).2
  exact Option.some.inj (h1.symm.trans h2)
theorem cls_Z {D : va_G} {cl : List vw_C} {cI cJ cZ cA : ClassId} {U : State} (hK : va_K D cl (tA cI cJ cZ ++ [(cA, .boolean)]) U) : cZ = cA := by
  have h1 : U.vm.findClass ("[" ++ FieldType.boolean.toString) = some cZ := (hK.2 2 (cZ, .boolean) rfl).2
  have h2 : U.vm.findClass ("[" ++ FieldType.boolean.toString) = some cA := (hK.2 3 (cA, .boolean) rfl).2
  exact Option.some.inj (h1.symm.trans h2)
theorem fb_i {s : State} {H : Heap} {D : va_G} {cl : List vw_C} {tys : List (ClassId × FieldType)} {ws : va_W} {A : Nat → Prop} {av : List Value} (hK : va_K D cl tys s) (hP : va_P D cl ws H) (hD : va_D A ws) : PreS s H (va_Pc av (fun U => U.heap.size = H.size ∧ va_P D cl ws U.heap ∧ va_K D cl tys U ∧ va_D (fun _ => True) ws)) av := ⟨fun a U g mk q => ⟨q.1, q.2.1, q.2.2.1, va_K.moved (u := U) (U := U.calling g mk a) (Vm.Alike.refl U.vm) q.2.2.2.1, q.2.2.2.2⟩, fun U hU hW => ⟨rfl, by rw [hU], by rw [hU]; exact hP, va_K.moved hW.alike hK, hD.weaken (fun _ _ _ _ => trivial)⟩⟩
set_option maxHeartbeats 4000000 in
set_option maxRecDepth 100000 in
theorem c_X1_init (l : Launch) (dC : Nat → ClassId) (dI : Nat → Nat → Nat) (cI cJ cZ : ClassId) (h0 sz : Nat) : Met l yX1_init wsX1_init ({ frames := 1, cells := 2, slots := 102, locals := 20 }) (va_Pc [.ref h0] (fun U => U.heap.size = sz ∧ va_P (dC, dI) vwCl [(h0, .inr (0, [.null, .null, .int 0, .int 0]))] U.heap ∧ va_K (dC, dI) vwCl (tA cI cJ cZ) U ∧ va_D (fun _ => True) [(h0, .inr (0, [.null, .null, .int 0, .int 0]))])) (va_Qv (fun (u : Unit) => u = ()) (fun _ t => ∃ q1 q2 : Nat, va_P (dC, dI) vwCl [(h0, .inr (0, [.ref q1, .ref q2, .int 0, .int 0])), (q1, .inl (cJ, 96, .inr (.inl (fun _ => 0)))), (q2, .inl (cI, 6, .inl (fun _ => 0)))] t.heap ∧ va_K (dC, dI) vwCl (tA cI cJ cZ) t ∧ va_D (va_A [(h0, .inr (0, [.null, .null, .int 0, .int 0]))] sz) [(h0, .inr (0, [.ref q1, .ref q2, .int 0, .int 0])), (q1, .inl (cJ, 96, .inr (.inl (fun _ => 0)))), (q2, .inl (cI, 6, .inl (fun _ => 0)))]) (va_A [(h0, .inr (0, [.null, .null, .int 0, .int 0]))] sz)) 2 102 (va_A [(h0, .inr (0, [.null, .null, .int 0, .int 0]))] sz) := by
  refine Met.ofW (cc := cX1_init) (maxL := 1) (ret := none) (by decide) rfl ?_
  intro p e s m args below meth c s₁ B hml hv
  obtain ⟨rfl, hsz, hP, hK, hD0⟩ := hv
  subst hsz
  have hin : meth.name = "<init>" := (name_of_methodNamed B.named B.method).1
  have hD := hD0.self (sz := s.heap.size)
  generalize hAe : va_A [(h0, .inr (0, [.null, .null, .int 0, .int 0]))] s.heap.size = A at hD ⊢
  have hA : ∀ q : Nat, s.heap.size ≤ q → A q := fun q h => by rw [← hAe]; exact Or.inr h
  have hS : va_S A s.heap s.heap [] := va_S.rf
  have hP : va_P (dC, dI) vwCl [(h0, .inr (0, [.null, .null, .int 0, .int 0]))] s.heap := hP
  have hx := B.exec
  have hb := B.bytes
  have hr := B.returns
  have hts := atoms_spec (ws := wsX1_init) B.pre
  have hown : s.vm.findClass RX1 = some m.cls := findClass_of_methodNamed B.named
  have hlocks := B.notSynchronized
  have h_inX1 : ∀ w ∈ wsX10, w ∈ wsX1_init := fun _ h => List.mem_cons_of_mem _ (List.mem_append_right _ h)
  have k_0 := hts (.methodLink RX1 3 objectInit) (by decide +kernel)
  have k_1 := hts (.instanceMethod objectInit) (by decide +kernel)
  have k_2 := hts (.code objectInit ⟨#[0xb1]⟩ 1 none) (by decide +kernel)
  have k_3 := hts (.arrayClass .long) (by decide +kernel)
  have k_4 := hts (.fieldLink RX1 9 "DetentCabinet$Steps" "valuesAhead" "[J") (by decide +kernel)
  have k_5 := hts (.arrayClass .int) (by decide +kernel)
  have k_6 := hts (.fieldLink RX1 15 "DetentCabinet$Steps" "dialsAhead" "[I") (by decide +kernel)
  have hl := lv_entry ([.ref h0]) (n := 1) (Nat.le_of_ble_eq_true rfl)
  rw [lg_entry_eq]
  generalize (lg_sl ([.ref h0]) ++ List.replicate (1 - (lg_sl ([.ref h0])).length) Slot.unset).toArray = ls at hl ⊢
  have hl : lv_has ls 1 [(0, .ref h0)] := hl
  refine lv_aload_n hx hb dX1_init_0 rfl (lv_at hl 0 rfl) ?_
  refine W.objInit hx hb hown k_0 k_1 k_2 rfl (by rw [hml]; exact hl.1) rfl dX1_init_1 (Nat.le_of_ble_eq_true rfl) (Nat.le_of_ble_eq_true rfl) ?_
  refine W.eq (g2 := F0 m 4 ls []) rfl ?_
  refine lv_aload_n hx hb dX1_init_4 rfl (lv_at hl 0 rfl) ?_
  refine lv_bipush (v := 96) hx hb dX1_init_5 (by decide) ?_
  refine va_newa (atype := .long) (ty := .long) (a0 := (96, .inr (.inl (fun _ => 0)))) (N' := 96) hx hb k_3 rfl hK hP hD hS hA (fun _ => rfl) (by decide) (by decide) (by decide) (Nat.le_of_ble_eq_true rfl) (Nat.le_of_ble_eq_true rfl) dX1_init_7 (fun q1 cA H hK1 hP hD hS => ?_)
  obtain rfl := cls_J hK1
  have hP : va_P (dC, dI) vwCl [(h0, .inr (0, [.null, .null, .int 0, .int 0])), (q1, .inl (cJ, 96, .inr (.inl (fun _ => 0))))] H := hP
  have hD : va_D A [(h0, .inr (0, [.null, .null, .int 0, .int 0])), (q1, .inl (cJ, 96, .inr (.inl (fun _ => 0))))] := hD
  refine va_putF (D := (dC, dI)) (ci := 0) (v := .ref q1) (ty := .array .long) (C := RX1) (T := TX1) (N := 4) hx hb hts h_inX1 tyX1 tyX1_ok nmX1 hown hK hP hD hS 0 rfl rfl 0 (by decide) k_4 (fun _ h9 => h9) rfl hin rfl (by decide +kernel) rfl rfl (Nat.le_of_ble_eq_true rfl) dX1_init_9 (fun H locs hP hD hS => ?_)
  have hP : va_P (dC, dI) vwCl [(h0, .inr (0, [.ref q1, .null, .int 0, .int 0])), (q1, .inl (cJ, 96, .inr (.inl (fun _ => 0))))] H := hP
  have hD : va_D A [(h0, .inr (0, [.ref q1, .null, .int 0, .int 0])), (q1, .inl (cJ, 96, .inr (.inl (fun _ => 0))))] := hD
  refine lv_aload_n hx hb dX1_init_12 rfl (lv_at hl 0 rfl) ?_
  refine lv_bipush (v := 6) hx hb dX1_init_13 (by decide) ?_
  refine va_newa (atype := .int) (ty := .int) (a0 := (6, .inl (fun _ => 0))) (N' := 6) hx hb k_5 rfl hK hP hD hS hA (fun _ => rfl) (by decide) (by decide) (by decide) (Nat.le_of_ble_eq_true rfl) (Nat.le_of_ble_eq_true rfl) dX1_init_15 (fun q2 cA H hK1 hP hD hS => ?_)
  obtain rfl := cls_I hK1
  have hP : va_P (dC, dI) vwCl [(h0, .inr (0, [.ref q1, .null, .int 0, .int 0])), (q1, .inl (cJ, 96, .inr (.inl (fun _ => 0)))), (q2, .inl (cI, 6, .inl (fun _ => 0)))] H := hP
  have hD : va_D A [(h0, .inr (0, [.ref q1, .null, .int 0, .int 0])), (q1, .inl (cJ, 96, .inr (.inl (fun _ => 0)))), (q2, .inl (cI, 6, .inl (fun _ => 0)))] := hD
  refine va_putF (D := (dC, dI)) (ci := 0) (v := .ref q2) (ty := .array .int) (C := RX1) (T := TX1) (N := 4) hx hb hts h_inX1 tyX1 tyX1_ok nmX1 hown hK hP hD hS 0 rfl rfl 1 (by decide) k_6 (fun _ h9 => h9) rfl hin rfl (by decide +kernel) rfl rfl (Nat.le_of_ble_eq_true rfl) dX1_init_17 (fun H locs hP hD hS => ?_)
  have hP : va_P (dC, dI) vwCl [(h0, .inr (0, [.ref q1, .ref q2, .int 0, .int 0])), (q1, .inl (cJ, 96, .inr (.inl (fun _ => 0)))), (q2, .inl (cI, 6, .inl (fun _ => 0)))] H := hP
  have hD : va_D A [(h0, .inr (0, [.ref q1, .ref q2, .int 0, .int 0])), (q1, .inl (cJ, 96, .inr (.inl (fun _ => 0)))), (q2, .inl (cI, 6, .inl (fun _ => 0)))] := hD
  refine W.widen (k := 2) (n := 102) (Nat.le_of_ble_eq_true rfl) (Nat.le_of_ble_eq_true rfl) ?_
  exact W.vret hx hb hr (fun t ht hW => ⟨⟨(), rfl, rfl, q1, q2, by rw [ht]; exact hP, va_K.moved hW.alike hK, hD⟩, hS.F ht⟩) hS.2.2 dX1_init_20
abbrev x_0 : XS := ((fun _ => 0), (fun _ => 0), (fun _ => 0), (fun _ => 0), 0, (fun _ => 0), (fun _ => 0), (fun _ => 0), (fun _ => 0), 0, 0, 0, 0, (fun _ => 0), (fun _ => 0), 0, 0)
abbrev m_0 : MS := ((fun _ => 0), (fun _ => 0), (fun _ => 0), (fun _ => 0), 0, (fun _ => 0), (fun _ => 0), (fun _ => 0), (fun _ => 0), 0, (fun _ => 0), (fun _ => 0), (fun _ => 0), 0, 0, 0, 0, (fun _ => 0), (fun _ => 0))
def adr (l : List Nat) : Nat → Nat := fun k => l.getD k 0
set_option maxHeartbeats 4000000 in
set_option maxRecDepth 100000 in
theorem c_X2_init (l : Launch) (dC : Nat → ClassId) (dI : Nat → Nat → Nat) (cI cJ cZ : ClassId) (h0 sz : Nat) : Met l yX2_init wsX2_init ({ frames := 2, cells := 11, slots := 266, locals := 40 }) (va_Pc [.ref h0] (fun U => U.heap.size = sz ∧ va_P (dC, dI) vwCl [(h0, .inr (1, [.null, .null, .null, .null, .int 0, .null, .null, .null, .null, .int 0, .null, .int 0, .int 0, .int 0]))] U.heap ∧ va_K (dC, dI) vwCl (tA cI cJ cZ) U ∧ va_D (fun _ => True) [(h0, .inr (1, [.null, .null, .null, .null, .int 0, .null, .null, .null, .null, .int 0, .null, .int 0, .int 0, .int 0]))])) (va_Qv (fun (u : XS) => u = x_0) (fun u t => ∃ a : Nat → Nat, a 0 = h0 ∧ at_X dC dI cI cJ cZ (va_A [(h0, .inr (1, [.null, .null, .null, .null, .int 0, .null, .null, .null, .null, .int 0, .null, .int 0, .int 0, .int 0]))] sz) a u t) (va_A [(h0, .inr (1, [.null, .null, .null, .null, .int 0, .null, .null, .null, .null, .int 0, .null, .int 0, .int 0, .int 0]))] sz)) 11 266 (va_A [(h0, .inr (1, [.null, .null, .null, .null, .int 0, .null, .null, .null, .null, .int 0, .null, .int 0, .int 0, .int 0]))] sz) := by
  refine Met.ofW (cc := cX2_init) (maxL := 1) (ret := none) (by decide) rfl ?_
  intro p e s m args below meth c s₁ B hml hv
  obtain ⟨rfl, hsz, hP, hK, hD0⟩ := hv
  subst hsz
  have hin : meth.name = "<init>" := (name_of_methodNamed B.named B.method).1
  have hD := hD0.self (sz := s.heap.size)
  generalize hAe : va_A [(h0, .inr (1, [.null, .null, .null, .null, .int 0, .null, .null, .null, .null, .int 0, .null, .int 0, .int 0, .int 0]))] s.heap.size = A at hD ⊢
  have hA : ∀ q : Nat, s.heap.size ≤ q → A q := fun q h => by rw [← hAe]; exact Or.inr h
  have hS : va_S A s.heap s.heap [] := va_S.rf
  have hP : va_P (dC, dI) vwCl [(h0, .inr (1, [.null, .null, .null, .null, .int 0, .null, .null, .null, .null, .int 0, .null, .int 0, .int 0, .int 0]))] s.heap := hP
  have hx := B.exec
  have hb := B.bytes
  have hr := B.returns
  have hts := atoms_spec (ws := wsX2_init) B.pre
  have hown : s.vm.findClass RX2 = some m.cls := findClass_of_methodNamed B.named
  have hlocks := B.notSynchronized
  have h_inX1 : ∀ w ∈ wsX10, w ∈ wsX2_init := fun _ h => List.mem_cons_of_mem _ (List.mem_append_right _ h)
  have h_inX2 : ∀ w ∈ wsX20, w ∈ wsX2_init := fun _ h => List.mem_cons_of_mem _ (List.mem_append_left _ (List.mem_append_right _ h))
  have k_0 := hts (.methodLink RX2 1 objectInit) (by decide +kernel)
  have k_1 := hts (.instanceMethod objectInit) (by decide +kernel)
  have k_2 := hts (.code objectInit ⟨#[0xb1]⟩ 1 none) (by decide +kernel)
  have k_3 := hts (.arrayClass .int) (by decide +kernel)
  have k_4 := hts (.fieldLink RX2 9 "DetentCabinet" "kinds" "[I") (by decide +kernel)
  have k_5 := hts (.arrayClass .long) (by decide +kernel)
  have k_6 := hts (.fieldLink RX2 13 "DetentCabinet" "lows" "[J") (by decide +kernel)
  have k_7 := hts (.fieldLink RX2 17 "DetentCabinet" "highs" "[J") (by decide +kernel)
  have k_8 := hts (.fieldLink RX2 20 "DetentCabinet" "values" "[J") (by decide +kernel)
  have k_9 := hts (.fieldLink RX2 23 "DetentCabinet" "rodSorts" "[I") (by decide +kernel)
  have k_10 := hts (.fieldLink RX2 26 "DetentCabinet" "rodFroms" "[I") (by decide +kernel)
  have k_11 := hts (.fieldLink RX2 29 "DetentCabinet" "rodTos" "[I") (by decide +kernel)
  have k_12 := hts (.arrayClass .boolean) (by decide +kernel)
  have k_13 := hts (.fieldLink RX2 32 "DetentCabinet" "rodGone" "[Z") (by decide +kernel)
  have k_14 := hts (.classLink RX2 36 RX1) (by decide +kernel)
  have k_15 := hts (.instantiable RX1 4) (by decide +kernel)
  have k_16 := hts (.initialized RX1) (by decide +kernel)
  have k_17 := hts (.methodLink RX2 38 yX1_init) (by decide +kernel)
  have k_18 := hts (.instanceMethod yX1_init) (by decide +kernel)
  have k_19 := hts (.fieldLink RX2 39 "DetentCabinet" "steps" "LDetentCabinet$Steps;") (by decide +kernel)
  have hl := lv_entry ([.ref h0]) (n := 1) (Nat.le_of_ble_eq_true rfl)
  rw [lg_entry_eq]
  generalize (lg_sl ([.ref h0]) ++ List.replicate (1 - (lg_sl ([.ref h0])).length) Slot.unset).toArray = ls at hl ⊢
  have hl : lv_has ls 1 [(0, .ref h0)] := hl
  refine lv_aload_n hx hb dX2_init_0 rfl (lv_at hl 0 rfl) ?_
  refine W.objInit hx hb hown k_0 k_1 k_2 rfl (by rw [hml]; exact hl.1) rfl dX2_init_1 (Nat.le_of_ble_eq_true rfl) (Nat.le_of_ble_eq_true rfl) ?_
  refine W.eq (g2 := F0 m 4 ls []) rfl ?_
  refine lv_aload_n hx hb dX2_init_4 rfl (lv_at hl 0 rfl) ?_
  refine lv_bipush (v := 16) hx hb dX2_init_5 (by decide) ?_
  refine va_newa (atype := .int) (ty := .int) (a0 := (16, .inl (fun _ => 0))) (N' := 16) hx hb k_3 rfl hK hP hD hS hA (fun _ => rfl) (by decide) (by decide) (by decide) (Nat.le_of_ble_eq_true rfl) (Nat.le_of_ble_eq_true rfl) dX2_init_7 (fun q1 cA H hK1 hP hD hS => ?_)
  obtain rfl := cls_I hK1
  have hP : va_P (dC, dI) vwCl [(h0, .inr (1, [.null, .null, .null, .null, .int 0, .null, .null, .null, .null, .int 0, .null, .int 0, .int 0, .int 0])), (q1, .inl (cI, 16, .inl (fun _ => 0)))] H := hP
  have hD : va_D A [(h0, .inr (1, [.null, .null, .null, .null, .int 0, .null, .null, .null, .null, .int 0, .null, .int 0, .int 0, .int 0])), (q1, .inl (cI, 16, .inl (fun _ => 0)))] := hD
  refine va_putF (D := (dC, dI)) (ci := 1) (v := .ref q1) (ty := .array .int) (C := RX2) (T := TX2) (N := 14) hx hb hts h_inX2 tyX2 tyX2_ok nmX2 hown hK hP hD hS 0 rfl rfl 0 (by decide) k_4 (fun _ h9 => h9) rfl hin rfl (by decide +kernel) rfl rfl (Nat.le_of_ble_eq_true rfl) dX2_init_9 (fun H locs hP hD hS => ?_)
  have hP : va_P (dC, dI) vwCl [(h0, .inr (1, [.ref q1, .null, .null, .null, .int 0, .null, .null, .null, .null, .int 0, .null, .int 0, .int 0, .int 0])), (q1, .inl (cI, 16, .inl (fun _ => 0)))] H := hP
  have hD : va_D A [(h0, .inr (1, [.ref q1, .null, .null, .null, .int 0, .null, .null, .null, .null, .int 0, .null, .int 0, .int 0, .int 0])), (q1, .inl (cI, 16, .inl (fun _ => 0)))] := hD
  refine lv_aload_n hx hb dX2_init_12 rfl (lv_at hl 0 rfl) ?_
  refine lv_bipush (v := 16) hx hb dX2_init_13 (by decide) ?_
  refine va_newa (atype := .long) (ty := .long) (a0 := (16, .inr (.inl (fun _ => 0)))) (N' := 16) hx hb k_5 rfl hK hP hD hS hA (fun _ => rfl) (by decide) (by decide) (by decide) (Nat.le_of_ble_eq_true rfl) (Nat.le_of_ble_eq_true rfl) dX2_init_15 (fun q2 cA H hK1 hP hD hS => ?_)
  obtain rfl := cls_J hK1
  have hP : va_P (dC, dI) vwCl [(h0, .inr (1, [.ref q1, .null, .null, .null, .int 0, .null, .null, .null, .null, .int 0, .null, .int 0, .int 0, .int 0])), (q1, .inl (cI, 16, .inl (fun _ => 0))), (q2, .inl (cJ, 16, .inr (.inl (fun _ => 0))))] H := hP
  have hD : va_D A [(h0, .inr (1, [.ref q1, .null, .null, .null, .int 0, .null, .null, .null, .null, .int 0, .null, .int 0, .int 0, .int 0])), (q1, .inl (cI, 16, .inl (fun _ => 0))), (q2, .inl (cJ, 16, .inr (.inl (fun _ => 0))))] := hD
  refine va_putF (D := (dC, dI)) (ci := 1) (v := .ref q2) (ty := .array .long) (C := RX2) (T := TX2) (N := 14) hx hb hts h_inX2 tyX2 tyX2_ok nmX2 hown hK hP hD hS 0 rfl rfl 1 (by decide) k_6 (fun _ h9 => h9) rfl hin rfl (by decide +kernel) rfl rfl (Nat.le_of_ble_eq_true rfl) dX2_init_17 (fun H locs hP hD hS => ?_)
  have hP : va_P (dC, dI) vwCl [(h0, .inr (1, [.ref q1, .ref q2, .null, .null, .int 0, .null, .null, .null, .null, .int 0, .null, .int 0, .int 0, .int 0])), (q1, .inl (cI, 16, .inl (fun _ => 0))), (q2, .inl (cJ, 16, .inr (.inl (fun _ => 0))))] H := hP
  have hD : va_D A [(h0, .inr (1, [.ref q1, .ref q2, .null, .null, .int 0, .null, .null, .null, .null, .int 0, .null, .int 0, .int 0, .int 0])), (q1, .inl (cI, 16, .inl (fun _ => 0))), (q2, .inl (cJ, 16, .inr (.inl (fun _ => 0))))] := hD
  refine lv_aload_n hx hb dX2_init_20 rfl (lv_at hl 0 rfl) ?_
  refine lv_bipush (v := 16) hx hb dX2_init_21 (by decide) ?_
  refine va_newa (atype := .long) (ty := .long) (a0 := (16, .inr (.inl (fun _ => 0)))) (N' := 16) hx hb k_5 rfl hK hP hD hS hA (fun _ => rfl) (by decide) (by decide) (by decide) (Nat.le_of_ble_eq_true rfl) (Nat.le_of_ble_eq_true rfl) dX2_init_23 (fun q3 cA H hK1 hP hD hS => ?_)
  obtain rfl := cls_J hK1
  have hP : va_P (dC, dI) vwCl [(h0, .inr (1, [.ref q1, .ref q2, .null, .null, .int 0, .null, .null, .null, .null, .int 0, .null, .int 0, .int 0, .int 0])), (q1, .inl (cI, 16, .inl (fun _ => 0))), (q2, .inl (cJ, 16, .inr (.inl (fun _ => 0)))), (q3, .inl (cJ, 16, .inr (.inl (fun _ => 0))))] H := hP
  have hD : va_D A [(h0, .inr (1, [.ref q1, .ref q2, .null, .null, .int 0, .null, .null, .null, .null, .int 0, .null, .int 0, .int 0, .int 0])), (q1, .inl (cI, 16, .inl (fun _ => 0))), (q2, .inl (cJ, 16, .inr (.inl (fun _ => 0)))), (q3, .inl (cJ, 16, .inr (.inl (fun _ => 0))))] := hD
  refine va_putF (D := (dC, dI)) (ci := 1) (v := .ref q3) (ty := .array .long) (C := RX2) (T := TX2) (N := 14) hx hb hts h_inX2 tyX2 tyX2_ok nmX2 hown hK hP hD hS 0 rfl rfl 2 (by decide) k_7 (fun _ h9 => h9) rfl hin rfl (by decide +kernel) rfl rfl (Nat.le_of_ble_eq_true rfl) dX2_init_25 (fun H locs hP hD hS => ?_)
  have hP : va_P (dC, dI) vwCl [(h0, .inr (1, [.ref q1, .ref q2, .ref q3, .null, .int 0, .null, .null, .null, .null, .int 0, .null, .int 0, .int 0, .int 0])), (q1, .inl (cI, 16, .inl (fun _ => 0))), (q2, .inl (cJ, 16, .inr (.inl (fun _ => 0)))), (q3, .inl (cJ, 16, .inr (.inl (fun _ => 0))))] H := hP
  have hD : va_D A [(h0, .inr (1, [.ref q1, .ref q2, .ref q3, .null, .int 0, .null, .null, .null, .null, .int 0, .null, .int 0, .int 0, .int 0])), (q1, .inl (cI, 16, .inl (fun _ => 0))), (q2, .inl (cJ, 16, .inr (.inl (fun _ => 0)))), (q3, .inl (cJ, 16, .inr (.inl (fun _ => 0))))] := hD
  refine lv_aload_n hx hb dX2_init_28 rfl (lv_at hl 0 rfl) ?_
  refine lv_bipush (v := 16) hx hb dX2_init_29 (by decide) ?_
  refine va_newa (atype := .long) (ty := .long) (a0 := (16, .inr (.inl (fun _ => 0)))) (N' := 16) hx hb k_5 rfl hK hP hD hS hA (fun _ => rfl) (by decide) (by decide) (by decide) (Nat.le_of_ble_eq_true rfl) (Nat.le_of_ble_eq_true rfl) dX2_init_31 (fun q4 cA H hK1 hP hD hS => ?_)
  obtain rfl := cls_J hK1
  have hP : va_P (dC, dI) vwCl [(h0, .inr (1, [.ref q1, .ref q2, .ref q3, .null, .int 0, .null, .null, .null, .null, .int 0, .null, .int 0, .int 0, .int 0])), (q1, .inl (cI, 16, .inl (fun _ => 0))), (q2, .inl (cJ, 16, .inr (.inl (fun _ => 0)))), (q3, .inl (cJ, 16, .inr (.inl (fun _ => 0)))), (q4, .inl (cJ, 16, .inr (.inl (fun _ => 0))))] H := hP
  have hD : va_D A [(h0, .inr (1, [.ref q1, .ref q2, .ref q3, .null, .int 0, .null, .null, .null, .null, .int 0, .null, .int 0, .int 0, .int 0])), (q1, .inl (cI, 16, .inl (fun _ => 0))), (q2, .inl (cJ, 16, .inr (.inl (fun _ => 0)))), (q3, .inl (cJ, 16, .inr (.inl (fun _ => 0)))), (q4, .inl (cJ, 16, .inr (.inl (fun _ => 0))))] := hD
  refine va_putF (D := (dC, dI)) (ci := 1) (v := .ref q4) (ty := .array .long) (C := RX2) (T := TX2) (N := 14) hx hb hts h_inX2 tyX2 tyX2_ok nmX2 hown hK hP hD hS 0 rfl rfl 3 (by decide) k_8 (fun _ h9 => h9) rfl hin rfl (by decide +kernel) rfl rfl (Nat.le_of_ble_eq_true rfl) dX2_init_33 (fun H locs hP hD hS => ?_)
  have hP : va_P (dC, dI) vwCl [(h0, .inr (1, [.ref q1, .ref q2, .ref q3, .ref q4, .int 0, .null, .null, .null, .null, .int 0, .null, .int 0, .int 0, .int 0])), (q1, .inl (cI, 16, .inl (fun _ => 0))), (q2, .inl (cJ, 16, .inr (.inl (fun _ => 0)))), (q3, .inl (cJ, 16, .inr (.inl (fun _ => 0)))), (q4, .inl (cJ, 16, .inr (.inl (fun _ => 0))))] H := hP
  have hD : va_D A [(h0, .inr (1, [.ref q1, .ref q2, .ref q3, .ref q4, .int 0, .null, .null, .null, .null, .int 0, .null, .int 0, .int 0, .int 0])), (q1, .inl (cI, 16, .inl (fun _ => 0))), (q2, .inl (cJ, 16, .inr (.inl (fun _ => 0)))), (q3, .inl (cJ, 16, .inr (.inl (fun _ => 0)))), (q4, .inl (cJ, 16, .inr (.inl (fun _ => 0))))] := hD
  refine lv_aload_n hx hb dX2_init_36 rfl (lv_at hl 0 rfl) ?_
  refine lv_bipush (v := 24) hx hb dX2_init_37 (by decide) ?_
  refine va_newa (atype := .int) (ty := .int) (a0 := (24, .inl (fun _ => 0))) (N' := 24) hx hb k_3 rfl hK hP hD hS hA (fun _ => rfl) (by decide) (by decide) (by decide) (Nat.le_of_ble_eq_true rfl) (Nat.le_of_ble_eq_true rfl) dX2_init_39 (fun q5 cA H hK1 hP hD hS => ?_)
  obtain rfl := cls_I hK1
  have hP : va_P (dC, dI) vwCl [(h0, .inr (1, [.ref q1, .ref q2, .ref q3, .ref q4, .int 0, .null, .null, .null, .null, .int 0, .null, .int 0, .int 0, .int 0])), (q1, .inl (cI, 16, .inl (fun _ => 0))), (q2, .inl (cJ, 16, .inr (.inl (fun _ => 0)))), (q3, .inl (cJ, 16, .inr (.inl (fun _ => 0)))), (q4, .inl (cJ, 16, .inr (.inl (fun _ => 0)))), (q5, .inl (cI, 24, .inl (fun _ => 0)))] H := hP
  have hD : va_D A [(h0, .inr (1, [.ref q1, .ref q2, .ref q3, .ref q4, .int 0, .null, .null, .null, .null, .int 0, .null, .int 0, .int 0, .int 0])), (q1, .inl (cI, 16, .inl (fun _ => 0))), (q2, .inl (cJ, 16, .inr (.inl (fun _ => 0)))), (q3, .inl (cJ, 16, .inr (.inl (fun _ => 0)))), (q4, .inl (cJ, 16, .inr (.inl (fun _ => 0)))), (q5, .inl (cI, 24, .inl (fun _ => 0)))] := hD
  refine va_putF (D := (dC, dI)) (ci := 1) (v := .ref q5) (ty := .array .int) (C := RX2) (T := TX2) (N := 14) hx hb hts h_inX2 tyX2 tyX2_ok nmX2 hown hK hP hD hS 0 rfl rfl 5 (by decide) k_9 (fun _ h9 => h9) rfl hin rfl (by decide +kernel) rfl rfl (Nat.le_of_ble_eq_true rfl) dX2_init_41 (fun H locs hP hD hS => ?_)
  have hP : va_P (dC, dI) vwCl [(h0, .inr (1, [.ref q1, .ref q2, .ref q3, .ref q4, .int 0, .ref q5, .null, .null, .null, .int 0, .null, .int 0, .int 0, .int 0])), (q1, .inl (cI, 16, .inl (fun _ => 0))), (q2, .inl (cJ, 16, .inr (.inl (fun _ => 0)))), (q3, .inl (cJ, 16, .inr (.inl (fun _ => 0)))), (q4, .inl (cJ, 16, .inr (.inl (fun _ => 0)))), (q5, .inl (cI, 24, .inl (fun _ => 0)))] H := hP
  have hD : va_D A [(h0, .inr (1, [.ref q1, .ref q2, .ref q3, .ref q4, .int 0, .ref q5, .null, .null, .null, .int 0, .null, .int 0, .int 0, .int 0])), (q1, .inl (cI, 16, .inl (fun _ => 0))), (q2, .inl (cJ, 16, .inr (.inl (fun _ => 0)))), (q3, .inl (cJ, 16, .inr (.inl (fun _ => 0)))), (q4, .inl (cJ, 16, .inr (.inl (fun _ => 0)))), (q5, .inl (cI, 24, .inl (fun _ => 0)))] := hD
  refine lv_aload_n hx hb dX2_init_44 rfl (lv_at hl 0 rfl) ?_
  refine lv_bipush (v := 24) hx hb dX2_init_45 (by decide) ?_
  refine va_newa (atype := .int) (ty := .int) (a0 := (24, .inl (fun _ => 0))) (N' := 24) hx hb k_3 rfl hK hP hD hS hA (fun _ => rfl) (by decide) (by decide) (by decide) (Nat.le_of_ble_eq_true rfl) (Nat.le_of_ble_eq_true rfl) dX2_init_47 (fun q6 cA H hK1 hP hD hS => ?_)
  obtain rfl := cls_I hK1
  have hP : va_P (dC, dI) vwCl [(h0, .inr (1, [.ref q1, .ref q2, .ref q3, .ref q4, .int 0, .ref q5, .null, .null, .null, .int 0, .null, .int 0, .int 0, .int 0])), (q1, .inl (cI, 16, .inl (fun _ => 0))), (q2, .inl (cJ, 16, .inr (.inl (fun _ => 0)))), (q3, .inl (cJ, 16, .inr (.inl (fun _ => 0)))), (q4, .inl (cJ, 16, .inr (.inl (fun _ => 0)))), (q5, .inl (cI, 24, .inl (fun _ => 0))), (q6, .inl (cI, 24, .inl (fun _ => 0)))] H := hP
  have hD : va_D A [(h0, .inr (1, [.ref q1, .ref q2, .ref q3, .ref q4, .int 0, .ref q5, .null, .null, .null, .int 0, .null, .int 0, .int 0, .int 0])), (q1, .inl (cI, 16, .inl (fun _ => 0))), (q2, .inl (cJ, 16, .inr (.inl (fun _ => 0)))), (q3, .inl (cJ, 16, .inr (.inl (fun _ => 0)))), (q4, .inl (cJ, 16, .inr (.inl (fun _ => 0)))), (q5, .inl (cI, 24, .inl (fun _ => 0))), (q6, .inl (cI, 24, .inl (fun _ => 0)))] := hD
  refine va_putF (D := (dC, dI)) (ci := 1) (v := .ref q6) (ty := .array .int) (C := RX2) (T := TX2) (N := 14) hx hb hts h_inX2 tyX2 tyX2_ok nmX2 hown hK hP hD hS 0 rfl rfl 6 (by decide) k_10 (fun _ h9 => h9) rfl hin rfl (by decide +kernel) rfl rfl (Nat.le_of_ble_eq_true rfl) dX2_init_49 (fun H locs hP hD hS => ?_)
  have hP : va_P (dC, dI) vwCl [(h0, .inr (1, [.ref q1, .ref q2, .ref q3, .ref q4, .int 0, .ref q5, .ref q6, .null, .null, .int 0, .null, .int 0, .int 0, .int 0])), (q1, .inl (cI, 16, .inl (fun _ => 0))), (q2, .inl (cJ, 16, .inr (.inl (fun _ => 0)))), (q3, .inl (cJ, 16, .inr (.inl (fun _ => 0)))), (q4, .inl (cJ, 16, .inr (.inl (fun _ => 0)))), (q5, .inl (cI, 24, .inl (fun _ => 0))), (q6, .inl (cI, 24, .inl (fun _ => 0)))] H := hP
  have hD : va_D A [(h0, .inr (1, [.ref q1, .ref q2, .ref q3, .ref q4, .int 0, .ref q5, .ref q6, .null, .null, .int 0, .null, .int 0, .int 0, .int 0])), (q1, .inl (cI, 16, .inl (fun _ => 0))), (q2, .inl (cJ, 16, .inr (.inl (fun _ => 0)))), (q3, .inl (cJ, 16, .inr (.inl (fun _ => 0)))), (q4, .inl (cJ, 16, .inr (.inl (fun _ => 0)))), (q5, .inl (cI, 24, .inl (fun _ => 0))), (q6, .inl (cI, 24, .inl (fun _ => 0)))] := hD
  refine lv_aload_n hx hb dX2_init_52 rfl (lv_at hl 0 rfl) ?_
  refine lv_bipush (v := 24) hx hb dX2_init_53 (by decide) ?_
  refine va_newa (atype := .int) (ty := .int) (a0 := (24, .inl (fun _ => 0))) (N' := 24) hx hb k_3 rfl hK hP hD hS hA (fun _ => rfl) (by decide) (by decide) (by decide) (Nat.le_of_ble_eq_true rfl) (Nat.le_of_ble_eq_true rfl) dX2_init_55 (fun q7 cA H hK1 hP hD hS => ?_)
  obtain rfl := cls_I hK1
  have hP : va_P (dC, dI) vwCl [(h0, .inr (1, [.ref q1, .ref q2, .ref q3, .ref q4, .int 0, .ref q5, .ref q6, .null, .null, .int 0, .null, .int 0, .int 0, .int 0])), (q1, .inl (cI, 16, .inl (fun _ => 0))), (q2, .inl (cJ, 16, .inr (.inl (fun _ => 0)))), (q3, .inl (cJ, 16, .inr (.inl (fun _ => 0)))), (q4, .inl (cJ, 16, .inr (.inl (fun _ => 0)))), (q5, .inl (cI, 24, .inl (fun _ => 0))), (q6, .inl (cI, 24, .inl (fun _ => 0))), (q7, .inl (cI, 24, .inl (fun _ => 0)))] H := hP
  have hD : va_D A [(h0, .inr (1, [.ref q1, .ref q2, .ref q3, .ref q4, .int 0, .ref q5, .ref q6, .null, .null, .int 0, .null, .int 0, .int 0, .int 0])), (q1, .inl (cI, 16, .inl (fun _ => 0))), (q2, .inl (cJ, 16, .inr (.inl (fun _ => 0)))), (q3, .inl (cJ, 16, .inr (.inl (fun _ => 0)))), (q4, .inl (cJ, 16, .inr (.inl (fun _ => 0)))), (q5, .inl (cI, 24, .inl (fun _ => 0))), (q6, .inl (cI, 24, .inl (fun _ => 0))), (q7, .inl (cI, 24, .inl (fun _ => 0)))] := hD
  refine va_putF (D := (dC, dI)) (ci := 1) (v := .ref q7) (ty := .array .int) (C := RX2) (T := TX2) (N := 14) hx hb hts h_inX2 tyX2 tyX2_ok nmX2 hown hK hP hD hS 0 rfl rfl 7 (by decide) k_11 (fun _ h9 => h9) rfl hin rfl (by decide +kernel) rfl rfl (Nat.le_of_ble_eq_true rfl) dX2_init_57 (fun H locs hP hD hS => ?_)
  have hP : va_P (dC, dI) vwCl [(h0, .inr (1, [.ref q1, .ref q2, .ref q3, .ref q4, .int 0, .ref q5, .ref q6, .ref q7, .null, .int 0, .null, .int 0, .int 0, .int 0])), (q1, .inl (cI, 16, .inl (fun _ => 0))), (q2, .inl (cJ, 16, .inr (.inl (fun _ => 0)))), (q3, .inl (cJ, 16, .inr (.inl (fun _ => 0)))), (q4, .inl (cJ, 16, .inr (.inl (fun _ => 0)))), (q5, .inl (cI, 24, .inl (fun _ => 0))), (q6, .inl (cI, 24, .inl (fun _ => 0))), (q7, .inl (cI, 24, .inl (fun _ => 0)))] H := hP
  have hD : va_D A [(h0, .inr (1, [.ref q1, .ref q2, .ref q3, .ref q4, .int 0, .ref q5, .ref q6, .ref q7, .null, .int 0, .null, .int 0, .int 0, .int 0])), (q1, .inl (cI, 16, .inl (fun _ => 0))), (q2, .inl (cJ, 16, .inr (.inl (fun _ => 0)))), (q3, .inl (cJ, 16, .inr (.inl (fun _ => 0)))), (q4, .inl (cJ, 16, .inr (.inl (fun _ => 0)))), (q5, .inl (cI, 24, .inl (fun _ => 0))), (q6, .inl (cI, 24, .inl (fun _ => 0))), (q7, .inl (cI, 24, .inl (fun _ => 0)))] := hD
  refine lv_aload_n hx hb dX2_init_60 rfl (lv_at hl 0 rfl) ?_
  refine lv_bipush (v := 24) hx hb dX2_init_61 (by decide) ?_
  refine va_newa (atype := .boolean) (ty := .boolean) (a0 := (24, .inl (fun _ => 0))) (N' := 24) hx hb k_12 rfl hK hP hD hS hA (fun _ => rfl) (by decide) (by decide) (by decide) (Nat.le_of_ble_eq_true rfl) (Nat.le_of_ble_eq_true rfl) dX2_init_63 (fun q8 cA H hK1 hP hD hS => ?_)
  obtain rfl := cls_Z hK1
  have hP : va_P (dC, dI) vwCl [(h0, .inr (1, [.ref q1, .ref q2, .ref q3, .ref q4, .int 0, .ref q5, .ref q6, .ref q7, .null, .int 0, .null, .int 0, .int 0, .int 0])), (q1, .inl (cI, 16, .inl (fun _ => 0))), (q2, .inl (cJ, 16, .inr (.inl (fun _ => 0)))), (q3, .inl (cJ, 16, .inr (.inl (fun _ => 0)))), (q4, .inl (cJ, 16, .inr (.inl (fun _ => 0)))), (q5, .inl (cI, 24, .inl (fun _ => 0))), (q6, .inl (cI, 24, .inl (fun _ => 0))), (q7, .inl (cI, 24, .inl (fun _ => 0))), (q8, .inl (cZ, 24, .inl (fun _ => 0)))] H := hP
  have hD : va_D A [(h0, .inr (1, [.ref q1, .ref q2, .ref q3, .ref q4, .int 0, .ref q5, .ref q6, .ref q7, .null, .int 0, .null, .int 0, .int 0, .int 0])), (q1, .inl (cI, 16, .inl (fun _ => 0))), (q2, .inl (cJ, 16, .inr (.inl (fun _ => 0)))), (q3, .inl (cJ, 16, .inr (.inl (fun _ => 0)))), (q4, .inl (cJ, 16, .inr (.inl (fun _ => 0)))), (q5, .inl (cI, 24, .inl (fun _ => 0))), (q6, .inl (cI, 24, .inl (fun _ => 0))), (q7, .inl (cI, 24, .inl (fun _ => 0))), (q8, .inl (cZ, 24, .inl (fun _ => 0)))] := hD
  refine va_putF (D := (dC, dI)) (ci := 1) (v := .ref q8) (ty := .array .boolean) (C := RX2) (T := TX2) (N := 14) hx hb hts h_inX2 tyX2 tyX2_ok nmX2 hown hK hP hD hS 0 rfl rfl 8 (by decide) k_13 (fun _ h9 => h9) rfl hin rfl (by decide +kernel) rfl rfl (Nat.le_of_ble_eq_true rfl) dX2_init_65 (fun H locs hP hD hS => ?_)
  have hP : va_P (dC, dI) vwCl [(h0, .inr (1, [.ref q1, .ref q2, .ref q3, .ref q4, .int 0, .ref q5, .ref q6, .ref q7, .ref q8, .int 0, .null, .int 0, .int 0, .int 0])), (q1, .inl (cI, 16, .inl (fun _ => 0))), (q2, .inl (cJ, 16, .inr (.inl (fun _ => 0)))), (q3, .inl (cJ, 16, .inr (.inl (fun _ => 0)))), (q4, .inl (cJ, 16, .inr (.inl (fun _ => 0)))), (q5, .inl (cI, 24, .inl (fun _ => 0))), (q6, .inl (cI, 24, .inl (fun _ => 0))), (q7, .inl (cI, 24, .inl (fun _ => 0))), (q8, .inl (cZ, 24, .inl (fun _ => 0)))] H := hP
  have hD : va_D A [(h0, .inr (1, [.ref q1, .ref q2, .ref q3, .ref q4, .int 0, .ref q5, .ref q6, .ref q7, .ref q8, .int 0, .null, .int 0, .int 0, .int 0])), (q1, .inl (cI, 16, .inl (fun _ => 0))), (q2, .inl (cJ, 16, .inr (.inl (fun _ => 0)))), (q3, .inl (cJ, 16, .inr (.inl (fun _ => 0)))), (q4, .inl (cJ, 16, .inr (.inl (fun _ => 0)))), (q5, .inl (cI, 24, .inl (fun _ => 0))), (q6, .inl (cI, 24, .inl (fun _ => 0))), (q7, .inl (cI, 24, .inl (fun _ => 0))), (q8, .inl (cZ, 24, .inl (fun _ => 0)))] := hD
  refine lv_aload_n hx hb dX2_init_68 rfl (lv_at hl 0 rfl) ?_
  refine va_new (ci := 0) (fs := [.null, .null, .int 0, .int 0]) (C := RX1) (T := TX1) (N := 4) hx hb hts h_inX1 tyX1 tyX1_ok hown k_14 k_15 k_16 hK hP hD hS hA rfl (fun j hj => by rcases (show j = 0 ∨ j = 1 ∨ j = 2 ∨ j = 3 by omega) with rfl | rfl | rfl | rfl <;> rfl) (Nat.le_of_ble_eq_true rfl) (Nat.le_of_ble_eq_true rfl) dX2_init_69 (fun q9 H hP hD hS => ?_)
  have hP : va_P (dC, dI) vwCl [(h0, .inr (1, [.ref q1, .ref q2, .ref q3, .ref q4, .int 0, .ref q5, .ref q6, .ref q7, .ref q8, .int 0, .null, .int 0, .int 0, .int 0])), (q1, .inl (cI, 16, .inl (fun _ => 0))), (q2, .inl (cJ, 16, .inr (.inl (fun _ => 0)))), (q3, .inl (cJ, 16, .inr (.inl (fun _ => 0)))), (q4, .inl (cJ, 16, .inr (.inl (fun _ => 0)))), (q5, .inl (cI, 24, .inl (fun _ => 0))), (q6, .inl (cI, 24, .inl (fun _ => 0))), (q7, .inl (cI, 24, .inl (fun _ => 0))), (q8, .inl (cZ, 24, .inl (fun _ => 0))), (q9, .inr (0, [.null, .null, .int 0, .int 0]))] H := hP
  have hD : va_D A [(h0, .inr (1, [.ref q1, .ref q2, .ref q3, .ref q4, .int 0, .ref q5, .ref q6, .ref q7, .ref q8, .int 0, .null, .int 0, .int 0, .int 0])), (q1, .inl (cI, 16, .inl (fun _ => 0))), (q2, .inl (cJ, 16, .inr (.inl (fun _ => 0)))), (q3, .inl (cJ, 16, .inr (.inl (fun _ => 0)))), (q4, .inl (cJ, 16, .inr (.inl (fun _ => 0)))), (q5, .inl (cI, 24, .inl (fun _ => 0))), (q6, .inl (cI, 24, .inl (fun _ => 0))), (q7, .inl (cI, 24, .inl (fun _ => 0))), (q8, .inl (cZ, 24, .inl (fun _ => 0))), (q9, .inr (0, [.null, .null, .int 0, .int 0]))] := hD
  refine lv_dup hx hb dX2_init_72 rfl ?_
  have hPc := hP.sub (ws' := [(q9, .inr (0, [.null, .null, .int 0, .int 0]))]) [9] rfl
  have hDc := hD.sub (ws' := [(q9, .inr (0, [.null, .null, .int 0, .int 0]))]) [9] (by decide) rfl
  have hFc := va_free (wc := [(q9, .inr (0, [.null, .null, .int 0, .int 0]))]) hD hS hA [9] rfl
  refine va_callv (va_runI (As := []) (rest := [.ref q9, .ref h0]) ⟨hx, hb, hml, hown, hts⟩ (c_X1_init l dC dI cI cJ cZ q9 H.size) (cwI 0 hts gX2_init_X1_init rfl rfl rfl k_16 k_17 k_18 rfl (by decide +kernel) ⟨Nat.le_of_ble_eq_true rfl, Nat.le_of_ble_eq_true rfl⟩) (fb_i hK hPc hDc) rfl rfl hl.1 rfl (lv_room (Nat.le_of_ble_eq_true rfl)) dX2_init_73 ⟨Nat.le_of_ble_eq_true rfl, Nat.le_of_ble_eq_true rfl⟩) hS (fun q _ h => hFc q h) hFc (fun u t H1 locs ht hvm hw hB hz1 hk1 hS => ?_)
  obtain ⟨q10, q11, hP1, hK1, hD1⟩ := hB
  rw [ht] at hP1
  obtain ⟨hP, hD⟩ := va_join (wr := [(h0, .inr (1, [.ref q1, .ref q2, .ref q3, .ref q4, .int 0, .ref q5, .ref q6, .ref q7, .ref q8, .int 0, .null, .int 0, .int 0, .int 0])), (q1, .inl (cI, 16, .inl (fun _ => 0))), (q2, .inl (cJ, 16, .inr (.inl (fun _ => 0)))), (q3, .inl (cJ, 16, .inr (.inl (fun _ => 0)))), (q4, .inl (cJ, 16, .inr (.inl (fun _ => 0)))), (q5, .inl (cI, 24, .inl (fun _ => 0))), (q6, .inl (cI, 24, .inl (fun _ => 0))), (q7, .inl (cI, 24, .inl (fun _ => 0))), (q8, .inl (cZ, 24, .inl (fun _ => 0)))]) (w1 := [(q9, .inr (0, [.ref q10, .ref q11, .int 0, .int 0])), (q10, .inl (cJ, 96, .inr (.inl (fun _ => 0)))), (q11, .inl (cI, 6, .inl (fun _ => 0)))]) hP hD [9] [0, 1, 2, 3, 4, 5, 6, 7, 8] rfl rfl (by decide) (by decide) hk1 hFc hP1 hD1
  generalize H1 = H at hP hS ⊢
  have hP : va_P (dC, dI) vwCl [(h0, .inr (1, [.ref q1, .ref q2, .ref q3, .ref q4, .int 0, .ref q5, .ref q6, .ref q7, .ref q8, .int 0, .null, .int 0, .int 0, .int 0])), (q1, .inl (cI, 16, .inl (fun _ => 0))), (q2, .inl (cJ, 16, .inr (.inl (fun _ => 0)))), (q3, .inl (cJ, 16, .inr (.inl (fun _ => 0)))), (q4, .inl (cJ, 16, .inr (.inl (fun _ => 0)))), (q5, .inl (cI, 24, .inl (fun _ => 0))), (q6, .inl (cI, 24, .inl (fun _ => 0))), (q7, .inl (cI, 24, .inl (fun _ => 0))), (q8, .inl (cZ, 24, .inl (fun _ => 0))), (q9, .inr (0, [.ref q10, .ref q11, .int 0, .int 0])), (q10, .inl (cJ, 96, .inr (.inl (fun _ => 0)))), (q11, .inl (cI, 6, .inl (fun _ => 0)))] H := hP
  have hD : va_D A [(h0, .inr (1, [.ref q1, .ref q2, .ref q3, .ref q4, .int 0, .ref q5, .ref q6, .ref q7, .ref q8, .int 0, .null, .int 0, .int 0, .int 0])), (q1, .inl (cI, 16, .inl (fun _ => 0))), (q2, .inl (cJ, 16, .inr (.inl (fun _ => 0)))), (q3, .inl (cJ, 16, .inr (.inl (fun _ => 0)))), (q4, .inl (cJ, 16, .inr (.inl (fun _ => 0)))), (q5, .inl (cI, 24, .inl (fun _ => 0))), (q6, .inl (cI, 24, .inl (fun _ => 0))), (q7, .inl (cI, 24, .inl (fun _ => 0))), (q8, .inl (cZ, 24, .inl (fun _ => 0))), (q9, .inr (0, [.ref q10, .ref q11, .int 0, .int 0])), (q10, .inl (cJ, 96, .inr (.inl (fun _ => 0)))), (q11, .inl (cI, 6, .inl (fun _ => 0)))] := hD
  refine va_putF (D := (dC, dI)) (ci := 1) (v := .ref q9) (ty := .object "DetentCabinet$Steps") (C := RX2) (T := TX2) (N := 14) hx hb hts h_inX2 tyX2 tyX2_ok nmX2 hown hK hP hD hS 0 rfl rfl 10 (by decide) k_19 (fun _ h9 => h9) rfl hin rfl (by decide +kernel) rfl rfl (Nat.le_of_ble_eq_true rfl) dX2_init_76 (fun H locs hP hD hS => ?_)
  have hP : va_P (dC, dI) vwCl [(h0, .inr (1, [.ref q1, .ref q2, .ref q3, .ref q4, .int 0, .ref q5, .ref q6, .ref q7, .ref q8, .int 0, .ref q9, .int 0, .int 0, .int 0])), (q1, .inl (cI, 16, .inl (fun _ => 0))), (q2, .inl (cJ, 16, .inr (.inl (fun _ => 0)))), (q3, .inl (cJ, 16, .inr (.inl (fun _ => 0)))), (q4, .inl (cJ, 16, .inr (.inl (fun _ => 0)))), (q5, .inl (cI, 24, .inl (fun _ => 0))), (q6, .inl (cI, 24, .inl (fun _ => 0))), (q7, .inl (cI, 24, .inl (fun _ => 0))), (q8, .inl (cZ, 24, .inl (fun _ => 0))), (q9, .inr (0, [.ref q10, .ref q11, .int 0, .int 0])), (q10, .inl (cJ, 96, .inr (.inl (fun _ => 0)))), (q11, .inl (cI, 6, .inl (fun _ => 0)))] H := hP
  have hD : va_D A [(h0, .inr (1, [.ref q1, .ref q2, .ref q3, .ref q4, .int 0, .ref q5, .ref q6, .ref q7, .ref q8, .int 0, .ref q9, .int 0, .int 0, .int 0])), (q1, .inl (cI, 16, .inl (fun _ => 0))), (q2, .inl (cJ, 16, .inr (.inl (fun _ => 0)))), (q3, .inl (cJ, 16, .inr (.inl (fun _ => 0)))), (q4, .inl (cJ, 16, .inr (.inl (fun _ => 0)))), (q5, .inl (cI, 24, .inl (fun _ => 0))), (q6, .inl (cI, 24, .inl (fun _ => 0))), (q7, .inl (cI, 24, .inl (fun _ => 0))), (q8, .inl (cZ, 24, .inl (fun _ => 0))), (q9, .inr (0, [.ref q10, .ref q11, .int 0, .int 0])), (q10, .inl (cJ, 96, .inr (.inl (fun _ => 0)))), (q11, .inl (cI, 6, .inl (fun _ => 0)))] := hD
  refine W.widen (k := 11) (n := 266) (Nat.le_of_ble_eq_true rfl) (Nat.le_of_ble_eq_true rfl) ?_
  exact W.vret hx hb hr (fun t ht hW => ⟨⟨x_0, rfl, rfl, adr [h0, q1, q2, q3, q4, q5, q6, q7, q8, q9, q10, q11], rfl, by rw [ht]; exact hP, va_K.moved hW.alike hK, hD⟩, hS.F ht⟩) hS.2.2 dX2_init_79
