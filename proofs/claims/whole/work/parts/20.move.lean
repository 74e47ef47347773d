def okE (se sh : Int32) : Prop := 0 ≤ se ∧ se ≤ 5 ∧ 0 ≤ sh ∧ sh ≤ 6
def smI (x : Int32) : Prop := ∃ n : Nat, n < 100 ∧ x = nI n
theorem smI_of {x M : Int32} {n : Nat} (hM : M.toInt = n) (hn : n < 100) (h0 : 0 ≤ x) (h1 : x ≤ M) : smI x := by
  obtain ⟨j, hj, rfl⟩ := nI_of2 hM (Int32.not_lt.mpr h0) h1
  exact ⟨j, by omega, rfl⟩
theorem smI_se {se sh : Int32} (h : okE se sh) : smI se := smI_of (M := 5) (n := 5) (by decide) (by decide) h.1 h.2.1
theorem smI_sh {se sh : Int32} (h : okE se sh) : smI sh := smI_of (M := 6) (n := 6) (by decide) (by decide) h.2.2.1 h.2.2.2
theorem rem6 {n : Nat} (h : n < 2 ^ 31) : nI n - nI n / 6 * 6 = nI (n % 6) := pk_rem (d := 6) h (by decide) (by decide)
theorem smI_up {x : Int32} (h : smI x) : smI (x + 1 - (x + 1) / 6 * 6) := by
  obtain ⟨n, hn, rfl⟩ := h
  rw [nI_1, rem6 (by omega)]
  exact ⟨_, by omega, rfl⟩
theorem smI_dn {x : Int32} (h : x = 6) : smI (x - 1) := by
  subst h
  exact ⟨5, by decide, by decide⟩
theorem slot_in {x y : Int32} (hx : smI x) (hy : smI y) : vp_in (x + y - (x + y) / 6 * 6) 6 := by
  obtain ⟨n, hn, rfl⟩ := hx
  obtain ⟨k, hk, rfl⟩ := hy
  rw [nI_add, rem6 (by omega)]
  exact vp_in_nI (Nat.mod_lt _ (by decide)) (by decide)
theorem cp_lo {x : Int32} (hx : vp_in x 6) : ¬ x * 16 < 0 := by
  obtain ⟨j, hj, rfl⟩ := vp_in_of hx (by decide)
  rw [show (16 : Int32) = nI 16 from rfl, pk_mul]
  exact nI_pos (by omega)
theorem cp_hi {x n : Int32} (hx : vp_in x 6) (hn : 0 ≤ n ∧ n ≤ 16) : (x * 16).toNatClampNeg + n.toNatClampNeg ≤ 96 := by
  obtain ⟨j, hj, rfl⟩ := vp_in_of hx (by decide)
  obtain ⟨k, hk, rfl⟩ := nI_of2 (M := 16) (n := 16) (by decide) (Int32.not_lt.mpr hn.1) hn.2
  rw [show (16 : Int32) = nI 16 from rfl, pk_mul, nI_clamp (by omega), nI_clamp (by omega)]
  omega
theorem cp_src {n : Int32} (hn : 0 ≤ n ∧ n ≤ 16) : (0 : Int32).toNatClampNeg + n.toNatClampNeg ≤ 16 := by
  obtain ⟨k, hk, rfl⟩ := nI_of2 (M := 16) (n := 16) (by decide) (Int32.not_lt.mpr hn.1) hn.2
  rw [nI_clamp (by omega)]
  show 0 + k ≤ 16
  omega
def k_se (se sh : Int32) : Int32 := if sh = 6 then se + 1 - (se + 1) / 6 * 6 else se
def k_s0 (sh : Int32) : Int32 := if sh = 6 then sh - 1 else sh
def k_slot (se sh : Int32) : Int32 := k_se se sh + k_s0 sh - (k_se se sh + k_s0 sh) / 6 * 6
def k_sd (sd : Nat → Int32) (se sh n : Int32) : Nat → Int32 := upd sd (k_slot se sh).toNatClampNeg n
def k_sv (vl sv : Nat → Int64) (se sh n : Int32) : Nat → Int64 := va_cpy vl sv (0 : Int32).toNatClampNeg (k_slot se sh * 16).toNatClampNeg n.toNatClampNeg
def k_sh (sh : Int32) : Int32 := k_s0 sh + 1
def s_keep (kd : Nat → Int32) (lo : Nat → Int64) (hi : Nat → Int64) (vl : Nat → Int64) (nd : Int32) (so : Nat → Int32) (fr : Nat → Int32) (tg : Nat → Int32) (gn : Nat → Int32) (nr : Int32) (mo : Int32) (ma : Int32) (fa : Int32) (sv : Nat → Int64) (sd : Nat → Int32) (se : Int32) (sh : Int32) (p1 : Int32) : XS :=
  if sh = (6 : Int32) then (kd, lo, hi, vl, nd, so, fr, tg, gn, nr, mo, ma, fa, (va_cpy vl sv (0 : Int32).toNatClampNeg (((((se + (1 : Int32)) - (se + (1 : Int32)) / (6 : Int32) * (6 : Int32)) + (sh - (1 : Int32))) - (((se + (1 : Int32)) - (se + (1 : Int32)) / (6 : Int32) * (6 : Int32)) + (sh - (1 : Int32))) / (6 : Int32) * (6 : Int32)) * (16 : Int32)).toNatClampNeg p1.toNatClampNeg), (upd sd ((((se + (1 : Int32)) - (se + (1 : Int32)) / (6 : Int32) * (6 : Int32)) + (sh - (1 : Int32))) - (((se + (1 : Int32)) - (se + (1 : Int32)) / (6 : Int32) * (6 : Int32)) + (sh - (1 : Int32))) / (6 : Int32) * (6 : Int32)).toNatClampNeg p1), ((se + (1 : Int32)) - (se + (1 : Int32)) / (6 : Int32) * (6 : Int32)), ((sh - (1 : Int32)) + (1 : Int32)))
  else (kd, lo, hi, vl, nd, so, fr, tg, gn, nr, mo, ma, fa, (va_cpy vl sv (0 : Int32).toNatClampNeg (((se + sh) - (se + sh) / (6 : Int32) * (6 : Int32)) * (16 : Int32)).toNatClampNeg p1.toNatClampNeg), (upd sd ((se + sh) - (se + sh) / (6 : Int32) * (6 : Int32)).toNatClampNeg p1), se, (sh + (1 : Int32)))
set_option maxHeartbeats 4000000 in
set_option maxRecDepth 100000 in
theorem c_X1_keep (l : Launch) (dC : Nat → ClassId) (dI : Nat → Nat → Nat) (cI cJ cZ : ClassId) (a : Nat → Nat) (kd : Nat → Int32) (lo : Nat → Int64) (hi : Nat → Int64) (vl : Nat → Int64) (nd : Int32) (so : Nat → Int32) (fr : Nat → Int32) (tg : Nat → Int32) (gn : Nat → Int32) (nr : Int32) (mo : Int32) (ma : Int32) (fa : Int32) (sv : Nat → Int64) (sd : Nat → Int32) (se : Int32) (sh : Int32) (p1 : Int32) (hE : okE se sh) (hp : 0 ≤ p1 ∧ p1 ≤ 16) (sz : Nat) : Met l yX1_keep wsX1_keep ({ frames := 1, cells := 0, slots := 0, locals := 26 }) (va_Pc [.ref (a 9), .ref (a 4), .int p1] (fun U => U.heap.size = sz ∧ va_P (dC, dI) vwCl (wX cI cJ cZ a kd lo hi vl nd so fr tg gn nr mo ma fa sv sd se sh) U.heap ∧ va_K (dC, dI) vwCl (tA cI cJ cZ) U ∧ va_D (fun _ => True) (wX cI cJ cZ a kd lo hi vl nd so fr tg gn nr mo ma fa sv sd se sh))) (va_Qv (fun (u : XS) => u = s_keep kd lo hi vl nd so fr tg gn nr mo ma fa sv sd se sh p1) (at_X dC dI cI cJ cZ (va_A (wX cI cJ cZ a kd lo hi vl nd so fr tg gn nr mo ma fa sv sd se sh) sz) a) (va_A (wX cI cJ cZ a kd lo hi vl nd so fr tg gn nr mo ma fa sv sd se sh) sz)) 0 0 (va_A (wX cI cJ cZ a kd lo hi vl nd so fr tg gn nr mo ma fa sv sd se sh) sz) := by
  refine Met.ofW (cc := cX1_keep) (maxL := 4) (ret := none) (by decide) rfl ?_
  intro p e s m args below meth c s₁ B hml hv
  obtain ⟨rfl, hsz, hP, hK, hD0⟩ := hv
  subst hsz
  have hD := hD0.self (sz := s.heap.size)
  generalize hAe : va_A (wX cI cJ cZ a kd lo hi vl nd so fr tg gn nr mo ma fa sv sd se sh) s.heap.size = A at hD ⊢
  have hA : ∀ q : Nat, s.heap.size ≤ q → A q := fun q h => by rw [← hAe]; exact Or.inr h
  have hS : va_S A s.heap s.heap [] := va_S.rf
  have hP : va_P (dC, dI) vwCl (wX cI cJ cZ a kd lo hi vl nd so fr tg gn nr mo ma fa sv sd se sh) s.heap := hP
  have hx := B.exec
  have hb := B.bytes
  have hr := B.returns
  have hts := atoms_spec (ws := wsX1_keep) B.pre
  have hown : s.vm.findClass RX1 = some m.cls := findClass_of_methodNamed B.named
  have hlocks := B.notSynchronized
  have h_inX1 : ∀ w ∈ wsX10, w ∈ wsX1_keep := fun _ h => List.mem_cons_of_mem _ (List.mem_append_right _ h)
  have k_0 := hts (.fieldLink RX1 19 "DetentCabinet$Steps" "held" "I") (by decide +kernel)
  have k_1 := hts (.fieldLink RX1 23 "DetentCabinet$Steps" "earliest" "I") (by decide +kernel)
  have k_2 := hts (.fieldLink RX1 15 "DetentCabinet$Steps" "dialsAhead" "[I") (by decide +kernel)
  have k_3 := hts (.fieldLink RX1 9 "DetentCabinet$Steps" "valuesAhead" "[J") (by decide +kernel)
  have k_4 := hts (.methodLink RX1 26 arraycopyName) (by decide +kernel)
  have k_5 := hts (.native arraycopyName) (by decide +kernel)
  have k_6 := hts (.static arraycopyName) (by decide +kernel)
  have k_7 := hts (.initialized "java/lang/System") (by decide +kernel)
  have hl := lv_entry ([.ref (a 9), .ref (a 4), .int p1]) (n := 4) (Nat.le_of_ble_eq_true rfl)
  rw [lg_entry_eq]
  generalize (lg_sl ([.ref (a 9), .ref (a 4), .int p1]) ++ List.replicate (4 - (lg_sl ([.ref (a 9), .ref (a 4), .int p1])).length) Slot.unset).toArray = ls at hl ⊢
  have hl : lv_has ls 4 [(0, .ref (a 9)), (1, .ref (a 4)), (2, .int p1)] := hl
  refine lv_aload_n hx hb dX1_keep_0 rfl (lv_at hl 0 rfl) ?_
  refine va_get (D := (dC, dI)) (ci := 0) (v := .int sh) (C := RX1) (T := TX1) (N := 4) hx hb hts h_inX1 hown hK hP 9 rfl rfl 3 (by decide) k_0 (fun _ h9 => h9) rfl dX1_keep_1 ?_
  refine lv_bipush (v := 6) hx hb dX1_keep_4 (by decide) ?_
  refine lv_icmp_ne (tgt := 32) hx hb dX1_keep_6 (by decide) (fun c_1 => ?_) (fun c_1 => ?_)
  · skip
    refine lv_aload_n hx hb dX1_keep_32 rfl (lv_at hl 0 rfl) ?_
    refine va_get (D := (dC, dI)) (ci := 0) (v := .int se) (C := RX1) (T := TX1) (N := 4) hx hb hts h_inX1 hown hK hP 9 rfl rfl 2 (by decide) k_1 (fun _ h9 => h9) rfl dX1_keep_33 ?_
    refine lv_aload_n hx hb dX1_keep_36 rfl (lv_at hl 0 rfl) ?_
    refine va_get (D := (dC, dI)) (ci := 0) (v := .int sh) (C := RX1) (T := TX1) (N := 4) hx hb hts h_inX1 hown hK hP 9 rfl rfl 3 (by decide) k_0 (fun _ h9 => h9) rfl dX1_keep_37 ?_
    refine lv_iadd hx hb dX1_keep_40 ?_
    refine lv_bipush (v := 6) hx hb dX1_keep_41 (by decide) ?_
    refine lv_irem hx hb dX1_keep_43 (by decide) ?_
    refine lv_istore_n (lv' := [(3, .int ((se + sh) - (se + sh) / (6 : Int32) * (6 : Int32))), (0, .ref (a 9)), (1, .ref (a 4)), (2, .int p1)]) hx hb dX1_keep_44 rfl hl (by decide) rfl (fun ls hl => ?_)
    refine lv_aload_n hx hb dX1_keep_45 rfl (lv_at hl 1 rfl) ?_
    refine va_get (D := (dC, dI)) (ci := 0) (v := .ref (a 11)) (C := RX1) (T := TX1) (N := 4) hx hb hts h_inX1 hown hK hP 9 rfl rfl 1 (by decide) k_2 (fun _ h9 => h9) rfl dX1_keep_46 ?_
    refine lv_iload_n hx hb dX1_keep_49 rfl (lv_at hl 0 rfl) ?_
    refine lv_iload_n hx hb dX1_keep_50 rfl (lv_at hl 3 rfl) ?_
    refine va_iast hx hb hK hP hD hS 11 0 rfl rfl (slot_in (smI_se hE) (smI_sh hE)) dX1_keep_51 (fun H locs hP hD hS => ?_)
    have hP : va_P (dC, dI) vwCl (wX cI cJ cZ a kd lo hi vl nd so fr tg gn nr mo ma fa sv (upd sd ((se + sh) - (se + sh) / (6 : Int32) * (6 : Int32)).toNatClampNeg p1) se sh) H := hP
    have hD : va_D A (wX cI cJ cZ a kd lo hi vl nd so fr tg gn nr mo ma fa sv (upd sd ((se + sh) - (se + sh) / (6 : Int32) * (6 : Int32)).toNatClampNeg p1) se sh) := hD
    refine lv_aload_n hx hb dX1_keep_52 rfl (lv_at hl 2 rfl) ?_
    refine lv_iconst (v := 0) hx hb dX1_keep_53 (by decide) ?_
    refine lv_aload_n hx hb dX1_keep_54 rfl (lv_at hl 1 rfl) ?_
    refine va_get (D := (dC, dI)) (ci := 0) (v := .ref (a 10)) (C := RX1) (T := TX1) (N := 4) hx hb hts h_inX1 hown hK hP 9 rfl rfl 0 (by decide) k_3 (fun _ h9 => h9) rfl dX1_keep_55 ?_
    refine lv_iload_n hx hb dX1_keep_58 rfl (lv_at hl 0 rfl) ?_
    refine lv_bipush (v := 16) hx hb dX1_keep_59 (by decide) ?_
    refine lv_imul hx hb dX1_keep_61 ?_
    refine lv_iload_n hx hb dX1_keep_62 rfl (lv_at hl 3 rfl) ?_
    refine va_copyl hx hb (by rw [hml, hl.1]) hown k_4 k_5 k_6 k_7 hK hP hD hS 4 10 1 1 rfl rfl rfl rfl rfl (by decide) (cp_lo (slot_in (smI_se hE) (smI_sh hE))) (Int32.not_lt.mpr hp.1) (cp_src hp) (cp_hi (slot_in (smI_se hE) (smI_sh hE)) hp) (fun _ _ => rfl) (Nat.le_of_ble_eq_true rfl) (Nat.le_of_ble_eq_true rfl) dX1_keep_63 (fun H locs hP hD hS => ?_)
    have hP : va_P (dC, dI) vwCl (wX cI cJ cZ a kd lo hi vl nd so fr tg gn nr mo ma fa (va_cpy vl sv (0 : Int32).toNatClampNeg (((se + sh) - (se + sh) / (6 : Int32) * (6 : Int32)) * (16 : Int32)).toNatClampNeg p1.toNatClampNeg) (upd sd ((se + sh) - (se + sh) / (6 : Int32) * (6 : Int32)).toNatClampNeg p1) se sh) H := hP
    have hD : va_D A (wX cI cJ cZ a kd lo hi vl nd so fr tg gn nr mo ma fa (va_cpy vl sv (0 : Int32).toNatClampNeg (((se + sh) - (se + sh) / (6 : Int32) * (6 : Int32)) * (16 : Int32)).toNatClampNeg p1.toNatClampNeg) (upd sd ((se + sh) - (se + sh) / (6 : Int32) * (6 : Int32)).toNatClampNeg p1) se sh) := hD
    refine lv_aload_n hx hb dX1_keep_66 rfl (lv_at hl 1 rfl) ?_
    refine lv_dup hx hb dX1_keep_67 rfl ?_
    refine va_get (D := (dC, dI)) (ci := 0) (v := .int sh) (C := RX1) (T := TX1) (N := 4) hx hb hts h_inX1 hown hK hP 9 rfl rfl 3 (by decide) k_0 (fun _ h9 => h9) rfl dX1_keep_68 ?_
    refine lv_iconst (v := 1) hx hb dX1_keep_71 (by decide) ?_
    refine lv_iadd hx hb dX1_keep_72 ?_
    refine va_put (D := (dC, dI)) (ci := 0) (v := .int (sh + (1 : Int32))) (ty := .int) (C := RX1) (T := TX1) (N := 4) hx hb hts h_inX1 tyX1 tyX1_ok nmX1 hown hK hP hD hS 9 rfl rfl 3 (by decide) k_0 (fun _ h9 => h9) rfl (by decide +kernel) rfl rfl (Nat.le_of_ble_eq_true rfl) dX1_keep_73 (fun H locs hP hD hS => ?_)
    have hP : va_P (dC, dI) vwCl (wX cI cJ cZ a kd lo hi vl nd so fr tg gn nr mo ma fa (va_cpy vl sv (0 : Int32).toNatClampNeg (((se + sh) - (se + sh) / (6 : Int32) * (6 : Int32)) * (16 : Int32)).toNatClampNeg p1.toNatClampNeg) (upd sd ((se + sh) - (se + sh) / (6 : Int32) * (6 : Int32)).toNatClampNeg p1) se (sh + (1 : Int32))) H := hP
    have hD : va_D A (wX cI cJ cZ a kd lo hi vl nd so fr tg gn nr mo ma fa (va_cpy vl sv (0 : Int32).toNatClampNeg (((se + sh) - (se + sh) / (6 : Int32) * (6 : Int32)) * (16 : Int32)).toNatClampNeg p1.toNatClampNeg) (upd sd ((se + sh) - (se + sh) / (6 : Int32) * (6 : Int32)).toNatClampNeg p1) se (sh + (1 : Int32))) := hD
    exact W.vret hx hb hr (fun t ht hW => ⟨⟨(kd, lo, hi, vl, nd, so, fr, tg, gn, nr, mo, ma, fa, (va_cpy vl sv (0 : Int32).toNatClampNeg (((se + sh) - (se + sh) / (6 : Int32) * (6 : Int32)) * (16 : Int32)).toNatClampNeg p1.toNatClampNeg), (upd sd ((se + sh) - (se + sh) / (6 : Int32) * (6 : Int32)).toNatClampNeg p1), se, (sh + (1 : Int32))), rfl, (by unfold s_keep; rw [if_neg c_1]), by rw [ht]; exact hP, va_K.moved hW.alike hK, hD⟩, hS.F ht⟩) hS.2.2 dX1_keep_76
  · skip
    refine lv_aload_n hx hb dX1_keep_9 rfl (lv_at hl 0 rfl) ?_
    refine lv_aload_n hx hb dX1_keep_10 rfl (lv_at hl 0 rfl) ?_
    refine va_get (D := (dC, dI)) (ci := 0) (v := .int se) (C := RX1) (T := TX1) (N := 4) hx hb hts h_inX1 hown hK hP 9 rfl rfl 2 (by decide) k_1 (fun _ h9 => h9) rfl dX1_keep_11 ?_
    refine lv_iconst (v := 1) hx hb dX1_keep_14 (by decide) ?_
    refine lv_iadd hx hb dX1_keep_15 ?_
    refine lv_bipush (v := 6) hx hb dX1_keep_16 (by decide) ?_
    refine lv_irem hx hb dX1_keep_18 (by decide) ?_
    refine va_put (D := (dC, dI)) (ci := 0) (v := .int ((se + (1 : Int32)) - (se + (1 : Int32)) / (6 : Int32) * (6 : Int32))) (ty := .int) (C := RX1) (T := TX1) (N := 4) hx hb hts h_inX1 tyX1 tyX1_ok nmX1 hown hK hP hD hS 9 rfl rfl 2 (by decide) k_1 (fun _ h9 => h9) rfl (by decide +kernel) rfl rfl (Nat.le_of_ble_eq_true rfl) dX1_keep_19 (fun H locs hP hD hS => ?_)
    have hP : va_P (dC, dI) vwCl (wX cI cJ cZ a kd lo hi vl nd so fr tg gn nr mo ma fa sv sd ((se + (1 : Int32)) - (se + (1 : Int32)) / (6 : Int32) * (6 : Int32)) sh) H := hP
    have hD : va_D A (wX cI cJ cZ a kd lo hi vl nd so fr tg gn nr mo ma fa sv sd ((se + (1 : Int32)) - (se + (1 : Int32)) / (6 : Int32) * (6 : Int32)) sh) := hD
    refine lv_aload_n hx hb dX1_keep_22 rfl (lv_at hl 0 rfl) ?_
    refine lv_dup hx hb dX1_keep_23 rfl ?_
    refine va_get (D := (dC, dI)) (ci := 0) (v := .int sh) (C := RX1) (T := TX1) (N := 4) hx hb hts h_inX1 hown hK hP 9 rfl rfl 3 (by decide) k_0 (fun _ h9 => h9) rfl dX1_keep_24 ?_
    refine lv_iconst (v := 1) hx hb dX1_keep_27 (by decide) ?_
    refine lv_isub hx hb dX1_keep_28 ?_
    refine va_put (D := (dC, dI)) (ci := 0) (v := .int (sh - (1 : Int32))) (ty := .int) (C := RX1) (T := TX1) (N := 4) hx hb hts h_inX1 tyX1 tyX1_ok nmX1 hown hK hP hD hS 9 rfl rfl 3 (by decide) k_0 (fun _ h9 => h9) rfl (by decide +kernel) rfl rfl (Nat.le_of_ble_eq_true rfl) dX1_keep_29 (fun H locs hP hD hS => ?_)
    have hP : va_P (dC, dI) vwCl (wX cI cJ cZ a kd lo hi vl nd so fr tg gn nr mo ma fa sv sd ((se + (1 : Int32)) - (se + (1 : Int32)) / (6 : Int32) * (6 : Int32)) (sh - (1 : Int32))) H := hP
    have hD : va_D A (wX cI cJ cZ a kd lo hi vl nd so fr tg gn nr mo ma fa sv sd ((se + (1 : Int32)) - (se + (1 : Int32)) / (6 : Int32) * (6 : Int32)) (sh - (1 : Int32))) := hD
    refine lv_aload_n hx hb dX1_keep_32 rfl (lv_at hl 0 rfl) ?_
    refine va_get (D := (dC, dI)) (ci := 0) (v := .int ((se + (1 : Int32)) - (se + (1 : Int32)) / (6 : Int32) * (6 : Int32))) (C := RX1) (T := TX1) (N := 4) hx hb hts h_inX1 hown hK hP 9 rfl rfl 2 (by decide) k_1 (fun _ h9 => h9) rfl dX1_keep_33 ?_
    refine lv_aload_n hx hb dX1_keep_36 rfl (lv_at hl 0 rfl) ?_
    refine va_get (D := (dC, dI)) (ci := 0) (v := .int (sh - (1 : Int32))) (C := RX1) (T := TX1) (N := 4) hx hb hts h_inX1 hown hK hP 9 rfl rfl 3 (by decide) k_0 (fun _ h9 => h9) rfl dX1_keep_37 ?_
    refine lv_iadd hx hb dX1_keep_40 ?_
    refine lv_bipush (v := 6) hx hb dX1_keep_41 (by decide) ?_
    refine lv_irem hx hb dX1_keep_43 (by decide) ?_
    refine lv_istore_n (lv' := [(3, .int ((((se + (1 : Int32)) - (se + (1 : Int32)) / (6 : Int32) * (6 : Int32)) + (sh - (1 : Int32))) - (((se + (1 : Int32)) - (se + (1 : Int32)) / (6 : Int32) * (6 : Int32)) + (sh - (1 : Int32))) / (6 : Int32) * (6 : Int32))), (0, .ref (a 9)), (1, .ref (a 4)), (2, .int p1)]) hx hb dX1_keep_44 rfl hl (by decide) rfl (fun ls hl => ?_)
    refine lv_aload_n hx hb dX1_keep_45 rfl (lv_at hl 1 rfl) ?_
    refine va_get (D := (dC, dI)) (ci := 0) (v := .ref (a 11)) (C := RX1) (T := TX1) (N := 4) hx hb hts h_inX1 hown hK hP 9 rfl rfl 1 (by decide) k_2 (fun _ h9 => h9) rfl dX1_keep_46 ?_
    refine lv_iload_n hx hb dX1_keep_49 rfl (lv_at hl 0 rfl) ?_
    refine lv_iload_n hx hb dX1_keep_50 rfl (lv_at hl 3 rfl) ?_
    refine va_iast hx hb hK hP hD hS 11 0 rfl rfl (slot_in (smI_up (smI_se hE)) (smI_dn (by assumption))) dX1_keep_51 (fun H locs hP hD hS => ?_)
    have hP : va_P (dC, dI) vwCl (wX cI cJ cZ a kd lo hi vl nd so fr tg gn nr mo ma fa sv (upd sd ((((se + (1 : Int32)) - (se + (1 : Int32)) / (6 : Int32) * (6 : Int32)) + (sh - (1 : Int32))) - (((se + (1 : Int32)) - (se + (1 : Int32)) / (6 : Int32) * (6 : Int32)) + (sh - (1 : Int32))) / (6 : Int32) * (6 : Int32)).toNatClampNeg p1) ((se + (1 : Int32)) - (se + (1 : Int32)) / (6 : Int32) * (6 : Int32)) (sh - (1 : Int32))) H := hP
    have hD : va_D A (wX cI cJ cZ a kd lo hi vl nd so fr tg gn nr mo ma fa sv (upd sd ((((se + (1 : Int32)) - (se + (1 : Int32)) / (6 : Int32) * (6 : Int32)) + (sh - (1 : Int32))) - (((se + (1 : Int32)) - (se + (1 : Int32)) / (6 : Int32) * (6 : Int32)) + (sh - (1 : Int32))) / (6 : Int32) * (6 : Int32)).toNatClampNeg p1) ((se + (1 : Int32)) - (se + (1 : Int32)) / (6 : Int32) * (6 : Int32)) (sh - (1 : Int32))) := hD
    refine lv_aload_n hx hb dX1_keep_52 rfl (lv_at hl 2 rfl) ?_
    refine lv_iconst (v := 0) hx hb dX1_keep_53 (by decide) ?_
    refine lv_aload_n hx hb dX1_keep_54 rfl (lv_at hl 1 rfl) ?_
    refine va_get (D := (dC, dI)) (ci := 0) (v := .ref (a 10)) (C := RX1) (T := TX1) (N := 4) hx hb hts h_inX1 hown hK hP 9 rfl rfl 0 (by decide) k_3 (fun _ h9 => h9) rfl dX1_keep_55 ?_
    refine lv_iload_n hx hb dX1_keep_58 rfl (lv_at hl 0 rfl) ?_
    refine lv_bipush (v := 16) hx hb dX1_keep_59 (by decide) ?_
    refine lv_imul hx hb dX1_keep_61 ?_
    refine lv_iload_n hx hb dX1_keep_62 rfl (lv_at hl 3 rfl) ?_
    refine va_copyl hx hb (by rw [hml, hl.1]) hown k_4 k_5 k_6 k_7 hK hP hD hS 4 10 1 1 rfl rfl rfl rfl rfl (by decide) (cp_lo (slot_in (smI_up (smI_se hE)) (smI_dn (by assumption)))) (Int32.not_lt.mpr hp.1) (cp_src hp) (cp_hi (slot_in (smI_up (smI_se hE)) (smI_dn (by assumption))) hp) (fun _ _ => rfl) (Nat.le_of_ble_eq_true rfl) (Nat.le_of_ble_eq_true rfl) dX1_keep_63 (fun H locs hP hD hS => ?_)
    have hP : va_P (dC, dI) vwCl (wX cI cJ cZ a kd lo hi vl nd so fr tg gn nr mo ma fa (va_cpy vl sv (0 : Int32).toNatClampNeg (((((se + (1 : Int32)) - (se + (1 : Int32)) / (6 : Int32) * (6 : Int32)) + (sh - (1 : Int32))) - (((se + (1 : Int32)) - (se + (1 : Int32)) / (6 : Int32) * (6 : Int32)) + (sh - (1 : Int32))) / (6 : Int32) * (6 : Int32)) * (16 : Int32)).toNatClampNeg p1.toNatClampNeg) (upd sd ((((se + (1 : Int32)) - (se + (1 : Int32)) / (6 : Int32) * (6 : Int32)) + (sh - (1 : Int32))) - (((se + (1 : Int32)) - (se + (1 : Int32)) / (6 : Int32) * (6 : Int32)) + (sh - (1 : Int32))) / (6 : Int32) * (6 : Int32)).toNatClampNeg p1) ((se + (1 : Int32)) - (se + (1 : Int32)) / (6 : Int32) * (6 : Int32)) (sh - (1 : Int32))) H := hP
    have hD : va_D A (wX cI cJ cZ a kd lo hi vl nd so fr tg gn nr mo ma fa (va_cpy vl sv (0 : Int32).toNatClampNeg (((((se + (1 : Int32)) - (se + (1 : Int32)) / (6 : Int32) * (6 : Int32)) + (sh - (1 : Int32))) - (((se + (1 : Int32)) - (se + (1 : Int32)) / (6 : Int32) * (6 : Int32)) + (sh - (1 : Int32))) / (6 : Int32) * (6 : Int32)) * (16 : Int32)).toNatClampNeg p1.toNatClampNeg) (upd sd ((((se + (1 : Int32)) - (se + (1 : Int32)) / (6 : Int32) * (6 : Int32)) + (sh - (1 : Int32))) - (((se + (1 : Int32)) - (se + (1 : Int32)) / (6 : Int32) * (6 : Int32)) + (sh - (1 : Int32))) / (6 : Int32) * (6 : Int32)).toNatClampNeg p1) ((se + (1 : Int32)) - (se + (1 : Int32)) / (6 : Int32) * (6 : Int32)) (sh - (1 : Int32))) := hD
    refine lv_aload_n hx hb dX1_keep_66 rfl (lv_at hl 1 rfl) ?_
    refine lv_dup hx hb dX1_keep_67 rfl ?_
    refine va_get (D := (dC, dI)) (ci := 0) (v := .int (sh - (1 : Int32))) (C := RX1) (T := TX1) (N := 4) hx hb hts h_inX1 hown hK hP 9 rfl rfl 3 (by decide) k_0 (fun _ h9 => h9) rfl dX1_keep_68 ?_
    refine lv_iconst (v := 1) hx hb dX1_keep_71 (by decide) ?_
    refine lv_iadd hx hb dX1_keep_72 ?_
    refine va_put (D := (dC, dI)) (ci := 0) (v := .int ((sh - (1 : Int32)) + (1 : Int32))) (ty := .int) (C := RX1) (T := TX1) (N := 4) hx hb hts h_inX1 tyX1 tyX1_ok nmX1 hown hK hP hD hS 9 rfl rfl 3 (by decide) k_0 (fun _ h9 => h9) rfl (by decide +kernel) rfl rfl (Nat.le_of_ble_eq_true rfl) dX1_keep_73 (fun H locs hP hD hS => ?_)
    have hP : va_P (dC, dI) vwCl (wX cI cJ cZ a kd lo hi vl nd so fr tg gn nr mo ma fa (va_cpy vl sv (0 : Int32).toNatClampNeg (((((se + (1 : Int32)) - (se + (1 : Int32)) / (6 : Int32) * (6 : Int32)) + (sh - (1 : Int32))) - (((se + (1 : Int32)) - (se + (1 : Int32)) / (6 : Int32) * (6 : Int32)) + (sh - (1 : Int32))) / (6 : Int32) * (6 : Int32)) * (16 : Int32)).toNatClampNeg p1.toNatClampNeg) (upd sd ((((se + (1 : Int32)) - (se + (1 : Int32)) / (6 : Int32) * (6 : Int32)) + (sh - (1 : Int32))) - (((se + (1 : Int32)) - (se + (1 : Int32)) / (6 : Int32) * (6 : Int32)) + (sh - (1 : Int32))) / (6 : Int32) * (6 : Int32)).toNatClampNeg p1) ((se + (1 : Int32)) - (se + (1 : Int32)) / (6 : Int32) * (6 : Int32)) ((sh - (1 : Int32)) + (1 : Int32))) H := hP
    have hD : va_D A (wX cI cJ cZ a kd lo hi vl nd so fr tg gn nr mo ma fa (va_cpy vl sv (0 : Int32).toNatClampNeg (((((se + (1 : Int32)) - (se + (1 : Int32)) / (6 : Int32) * (6 : Int32)) + (sh - (1 : Int32))) - (((se + (1 : Int32)) - (se + (1 : Int32)) / (6 : Int32) * (6 : Int32)) + (sh - (1 : Int32))) / (6 : Int32) * (6 : Int32)) * (16 : Int32)).toNatClampNeg p1.toNatClampNeg) (upd sd ((((se + (1 : Int32)) - (se + (1 : Int32)) / (6 : Int32) * (6 : Int32)) + (sh - (1 : Int32))) - (((se + (1 : Int32)) - (se + (1 : Int32)) / (6 : Int32) * (6 : Int32)) + (sh - (1 : Int32))) / (6 : Int32) * (6 : Int32)).toNatClampNeg p1) ((se + (1 : Int32)) - (se + (1 : Int32)) / (6 : Int32) * (6 : Int32)) ((sh - (1 : Int32)) + (1 : Int32))) := hD
    exact W.vret hx hb hr (fun t ht hW => ⟨⟨(kd, lo, hi, vl, nd, so, fr, tg, gn, nr, mo, ma, fa, (va_cpy vl sv (0 : Int32).toNatClampNeg (((((se + (1 : Int32)) - (se + (1 : Int32)) / (6 : Int32) * (6 : Int32)) + (sh - (1 : Int32))) - (((se + (1 : Int32)) - (se + (1 : Int32)) / (6 : Int32) * (6 : Int32)) + (sh - (1 : Int32))) / (6 : Int32) * (6 : Int32)) * (16 : Int32)).toNatClampNeg p1.toNatClampNeg), (upd sd ((((se + (1 : Int32)) - (se + (1 : Int32)) / (6 : Int32) * (6 : Int32)) + (sh - (1 : Int32))) - (((se + (1 : Int32)) - (se + (1 : Int32)) / (6 : Int32) * (6 : Int32)) + (sh - (1 : Int32))) / (6 : Int32) * (6 : Int32)).toNatClampNeg p1), ((se + (1 : Int32)) - (se + (1 : Int32)) / (6 : Int32) * (6 : Int32)), ((sh - (1 : Int32)) + (1 : Int32))), rfl, (by unfold s_keep; rw [if_pos c_1]), by rw [ht]; exact hP, va_K.moved hW.alike hK, hD⟩, hS.F ht⟩) hS.2.2 dX1_keep_76
theorem s_keep_eq (kd : Nat → Int32) (lo : Nat → Int64) (hi : Nat → Int64) (vl : Nat → Int64) (nd : Int32) (so : Nat → Int32) (fr : Nat → Int32) (tg : Nat → Int32) (gn : Nat → Int32) (nr : Int32) (mo : Int32) (ma : Int32) (fa : Int32) (sv : Nat → Int64) (sd : Nat → Int32) (se : Int32) (sh : Int32) (p1 : Int32) : s_keep kd lo hi vl nd so fr tg gn nr mo ma fa sv sd se sh p1 = (kd, lo, hi, vl, nd, so, fr, tg, gn, nr, mo, ma, fa, (k_sv vl sv se sh p1), (k_sd sd se sh p1), (k_se se sh), (k_sh sh)) := by
  unfold s_keep k_sv k_sd k_sh k_slot k_se k_s0
  by_cases h : sh = 6
  · simp only [if_pos h]
  · simp only [if_neg h]
def x_move (kd : Nat → Int32) (lo : Nat → Int64) (hi : Nat → Int64) (vl : Nat → Int64) (nd : Int32) (so : Nat → Int32) (fr : Nat → Int32) (tg : Nat → Int32) (gn : Nat → Int32) (nr : Int32) (mo : Int32) (ma : Int32) (fa : Int32) (sv : Nat → Int64) (sd : Nat → Int32) (se : Int32) (sh : Int32) (p0 : Int32) (p1 : Int64) : XS :=
  if mo = 0 then (kd, lo, hi, (vp_updL vl p0.toNatClampNeg p1), nd, so, fr, tg, gn, nr, (mo + (1 : Int32)), (ma + (1 : Int32)), fa, (k_sv vl sv se sh nd), (k_sd sd se sh nd), (k_se se sh), (k_sh sh))
  else (kd, lo, hi, (vp_updL vl p0.toNatClampNeg p1), nd, so, fr, tg, gn, nr, (mo + (1 : Int32)), (ma + (1 : Int32)), fa, sv, sd, se, sh)
set_option maxHeartbeats 4000000 in
set_option maxRecDepth 100000 in
theorem c_X2_move (l : Launch) (dC : Nat → ClassId) (dI : Nat → Nat → Nat) (cI cJ cZ : ClassId) (a : Nat → Nat) (kd : Nat → Int32) (lo : Nat → Int64) (hi : Nat → Int64) (vl : Nat → Int64) (nd : Int32) (so : Nat → Int32) (fr : Nat → Int32) (tg : Nat → Int32) (gn : Nat → Int32) (nr : Int32) (mo : Int32) (ma : Int32) (fa : Int32) (sv : Nat → Int64) (sd : Nat → Int32) (se : Int32) (sh : Int32) (p0 : Int32) (p1 : Int64) (hE : okE se sh) (hn : 0 ≤ nd ∧ nd ≤ 16) (hd : vp_in p0 16) (sz : Nat) : Met l yX2_move wsX2_move ({ frames := 2, cells := 0, slots := 0, locals := 49 }) (va_Pc [.ref (a 0), .int p0, .long p1] (fun U => U.heap.size = sz ∧ va_P (dC, dI) vwCl (wX cI cJ cZ a kd lo hi vl nd so fr tg gn nr mo ma fa sv sd se sh) U.heap ∧ va_K (dC, dI) vwCl (tA cI cJ cZ) U ∧ va_D (fun _ => True) (wX cI cJ cZ a kd lo hi vl nd so fr tg gn nr mo ma fa sv sd se sh))) (va_Qv (fun (u : XS) => u = x_move kd lo hi vl nd so fr tg gn nr mo ma fa sv sd se sh p0 p1) (at_X dC dI cI cJ cZ (va_A (wX cI cJ cZ a kd lo hi vl nd so fr tg gn nr mo ma fa sv sd se sh) sz) a) (va_A (wX cI cJ cZ a kd lo hi vl nd so fr tg gn nr mo ma fa sv sd se sh) sz)) 0 0 (va_A (wX cI cJ cZ a kd lo hi vl nd so fr tg gn nr mo ma fa sv sd se sh) sz) := by
  refine Met.ofW (cc := cX2_move) (maxL := 4) (ret := none) (by decide) rfl ?_
  intro p e s m args below meth c s₁ B hml hv
  obtain ⟨rfl, hsz, hP, hK, hD0⟩ := hv
  subst hsz
  have hD := hD0.self (sz := s.heap.size)
  generalize hAe : va_A (wX cI cJ cZ a kd lo hi vl nd so fr tg gn nr mo ma fa sv sd se sh) s.heap.size = A at hD ⊢
  have hA : ∀ q : Nat, s.heap.size ≤ q → A q := fun q h => by rw [← hAe]; exact Or.inr h
  have hS : va_S A s.heap s.heap [] := va_S.rf
  have hP : va_P (dC, dI) vwCl (wX cI cJ cZ a kd lo hi vl nd so fr tg gn nr mo ma fa sv sd se sh) s.heap := hP
  have hx := B.exec
  have hb := B.bytes
  have hr := B.returns
  have hts := atoms_spec (ws := wsX2_move) B.pre
  have hown : s.vm.findClass RX2 = some m.cls := findClass_of_methodNamed B.named
  have hlocks := B.notSynchronized
  have h_inX2 : ∀ w ∈ wsX20, w ∈ wsX2_move := fun _ h => List.mem_cons_of_mem _ (List.mem_append_left _ (List.mem_append_right _ h))
  have k_0 := hts (.fieldLink RX2 123 "DetentCabinet" "movesOfCall" "I") (by decide +kernel)
  have k_1 := hts (.fieldLink RX2 20 "DetentCabinet" "values" "[J") (by decide +kernel)
  have k_2 := hts (.fieldLink RX2 107 "DetentCabinet" "movesInAll" "I") (by decide +kernel)
  have k_3 := hts (.fieldLink RX2 39 "DetentCabinet" "steps" "LDetentCabinet$Steps;") (by decide +kernel)
  have k_4 := hts (.fieldLink RX2 51 "DetentCabinet" "dialCount" "I") (by decide +kernel)
  have hl := lv_entry ([.ref (a 0), .int p0, .long p1]) (n := 4) (Nat.le_of_ble_eq_true rfl)
  rw [lg_entry_eq]
  generalize (lg_sl ([.ref (a 0), .int p0, .long p1]) ++ List.replicate (4 - (lg_sl ([.ref (a 0), .int p0, .long p1])).length) Slot.unset).toArray = ls at hl ⊢
  have hl : lv_has ls 4 [(0, .ref (a 0)), (1, .int p0), (2, .long p1)] := hl
  refine lv_aload_n hx hb dX2_move_0 rfl (lv_at hl 0 rfl) ?_
  refine va_get (D := (dC, dI)) (ci := 1) (v := .int mo) (C := RX2) (T := TX2) (N := 14) hx hb hts h_inX2 hown hK hP 0 rfl rfl 11 (by decide) k_0 (fun _ h9 => h9) rfl dX2_move_1 ?_
  refine lv_if_ne (tgt := 22) hx hb dX2_move_4 (by decide) (fun c_1 => ?_) (fun c_1 => ?_)
  · skip
    refine lv_aload_n hx hb dX2_move_22 rfl (lv_at hl 0 rfl) ?_
    refine va_get (D := (dC, dI)) (ci := 1) (v := .ref (a 4)) (C := RX2) (T := TX2) (N := 14) hx hb hts h_inX2 hown hK hP 0 rfl rfl 3 (by decide) k_1 (fun _ h9 => h9) rfl dX2_move_23 ?_
    refine lv_iload_n hx hb dX2_move_26 rfl (lv_at hl 1 rfl) ?_
    refine lv_lload_n hx hb dX2_move_27 rfl (lv_at hl 2 rfl) ?_
    refine va_last hx hb hK hP hD hS 4 1 rfl rfl (by assumption) dX2_move_28 (fun H locs hP hD hS => ?_)
    have hP : va_P (dC, dI) vwCl (wX cI cJ cZ a kd lo hi (vp_updL vl p0.toNatClampNeg p1) nd so fr tg gn nr mo ma fa sv sd se sh) H := hP
    have hD : va_D A (wX cI cJ cZ a kd lo hi (vp_updL vl p0.toNatClampNeg p1) nd so fr tg gn nr mo ma fa sv sd se sh) := hD
    refine lv_aload_n hx hb dX2_move_29 rfl (lv_at hl 0 rfl) ?_
    refine lv_dup hx hb dX2_move_30 rfl ?_
    refine va_get (D := (dC, dI)) (ci := 1) (v := .int mo) (C := RX2) (T := TX2) (N := 14) hx hb hts h_inX2 hown hK hP 0 rfl rfl 11 (by decide) k_0 (fun _ h9 => h9) rfl dX2_move_31 ?_
    refine lv_iconst (v := 1) hx hb dX2_move_34 (by decide) ?_
    refine lv_iadd hx hb dX2_move_35 ?_
    refine va_put (D := (dC, dI)) (ci := 1) (v := .int (mo + (1 : Int32))) (ty := .int) (C := RX2) (T := TX2) (N := 14) hx hb hts h_inX2 tyX2 tyX2_ok nmX2 hown hK hP hD hS 0 rfl rfl 11 (by decide) k_0 (fun _ h9 => h9) rfl (by decide +kernel) rfl rfl (Nat.le_of_ble_eq_true rfl) dX2_move_36 (fun H locs hP hD hS => ?_)
    have hP : va_P (dC, dI) vwCl (wX cI cJ cZ a kd lo hi (vp_updL vl p0.toNatClampNeg p1) nd so fr tg gn nr (mo + (1 : Int32)) ma fa sv sd se sh) H := hP
    have hD : va_D A (wX cI cJ cZ a kd lo hi (vp_updL vl p0.toNatClampNeg p1) nd so fr tg gn nr (mo + (1 : Int32)) ma fa sv sd se sh) := hD
    refine lv_aload_n hx hb dX2_move_39 rfl (lv_at hl 0 rfl) ?_
    refine lv_dup hx hb dX2_move_40 rfl ?_
    refine va_get (D := (dC, dI)) (ci := 1) (v := .int ma) (C := RX2) (T := TX2) (N := 14) hx hb hts h_inX2 hown hK hP 0 rfl rfl 12 (by decide) k_2 (fun _ h9 => h9) rfl dX2_move_41 ?_
    refine lv_iconst (v := 1) hx hb dX2_move_44 (by decide) ?_
    refine lv_iadd hx hb dX2_move_45 ?_
    refine va_put (D := (dC, dI)) (ci := 1) (v := .int (ma + (1 : Int32))) (ty := .int) (C := RX2) (T := TX2) (N := 14) hx hb hts h_inX2 tyX2 tyX2_ok nmX2 hown hK hP hD hS 0 rfl rfl 12 (by decide) k_2 (fun _ h9 => h9) rfl (by decide +kernel) rfl rfl (Nat.le_of_ble_eq_true rfl) dX2_move_46 (fun H locs hP hD hS => ?_)
    have hP : va_P (dC, dI) vwCl (wX cI cJ cZ a kd lo hi (vp_updL vl p0.toNatClampNeg p1) nd so fr tg gn nr (mo + (1 : Int32)) (ma + (1 : Int32)) fa sv sd se sh) H := hP
    have hD : va_D A (wX cI cJ cZ a kd lo hi (vp_updL vl p0.toNatClampNeg p1) nd so fr tg gn nr (mo + (1 : Int32)) (ma + (1 : Int32)) fa sv sd se sh) := hD
    exact W.vret hx hb hr (fun t ht hW => ⟨⟨(kd, lo, hi, (vp_updL vl p0.toNatClampNeg p1), nd, so, fr, tg, gn, nr, (mo + (1 : Int32)), (ma + (1 : Int32)), fa, sv, sd, se, sh), rfl, (by unfold x_move; rw [if_neg c_1]), by rw [ht]; exact hP, va_K.moved hW.alike hK, hD⟩, hS.F ht⟩) hS.2.2 dX2_move_49
  · skip
    refine lv_aload_n hx hb dX2_move_7 rfl (lv_at hl 0 rfl) ?_
    refine va_get (D := (dC, dI)) (ci := 1) (v := .ref (a 9)) (C := RX2) (T := TX2) (N := 14) hx hb hts h_inX2 hown hK hP 0 rfl rfl 10 (by decide) k_3 (fun _ h9 => h9) rfl dX2_move_8 ?_
    refine lv_aload_n hx hb dX2_move_11 rfl (lv_at hl 0 rfl) ?_
    refine va_get (D := (dC, dI)) (ci := 1) (v := .ref (a 4)) (C := RX2) (T := TX2) (N := 14) hx hb hts h_inX2 hown hK hP 0 rfl rfl 3 (by decide) k_1 (fun _ h9 => h9) rfl dX2_move_12 ?_
    refine lv_aload_n hx hb dX2_move_15 rfl (lv_at hl 0 rfl) ?_
    refine va_get (D := (dC, dI)) (ci := 1) (v := .int nd) (C := RX2) (T := TX2) (N := 14) hx hb hts h_inX2 hown hK hP 0 rfl rfl 4 (by decide) k_4 (fun _ h9 => h9) rfl dX2_move_16 ?_
    have hFc := va_free (wc := (wX cI cJ cZ a kd lo hi vl nd so fr tg gn nr mo ma fa sv sd se sh)) hD hS hA [0, 1, 2, 3, 4, 5, 6, 7, 8, 9, 10, 11] rfl
    refine va_callv (va_runV (As := [.ref (a 4), .int nd]) (rest := []) ⟨hx, hb, hml, hown, hts⟩ (c_X1_keep l dC dI cI cJ cZ a kd lo hi vl nd so fr tg gn nr mo ma fa sv sd se sh nd (by assumption) (by assumption) s.heap.size) (cwV 2 hts gX2_move_X1_keep rfl rfl rfl (by decide +kernel) ⟨Nat.le_of_ble_eq_true rfl, Nat.le_of_ble_eq_true rfl⟩) (fb_m hK hP hD (va_recv hK hP (ci := 0) (q0 := 9) rfl rfl)) rfl rfl hl.1 rfl (lv_room (Nat.le_of_ble_eq_true rfl)) dX2_move_19 ⟨Nat.zero_le _, Nat.zero_le _⟩) hS (fun q _ h => hFc q h) hFc (fun u t H1 locs ht hvm hw_2 hB hz1 hk1 hS => ?_)
    obtain ⟨kd_2, lo_2, hi_2, vl_2, nd_2, so_2, fr_2, tg_2, gn_2, nr_2, mo_2, ma_2, fa_2, sv_2, sd_2, se_2, sh_2⟩ := u
    rw [s_keep_eq] at hw_2
    have hw_2 := hw_2.symm
    simp only [Prod.mk.injEq] at hw_2
    obtain ⟨rfl, rfl, rfl, rfl, rfl, rfl, rfl, rfl, rfl, rfl, rfl, rfl, rfl, rfl, rfl, rfl, rfl⟩ := hw_2
    obtain ⟨hP1, hK1, hD1⟩ := hB
    rw [ht] at hP1
    obtain ⟨hP, hD⟩ := va_join (wr := []) (w1 := (wX cI cJ cZ a kd lo hi vl nd so fr tg gn nr mo ma fa (k_sv vl sv se sh nd) (k_sd sd se sh nd) (k_se se sh) (k_sh sh))) hP hD [0, 1, 2, 3, 4, 5, 6, 7, 8, 9, 10, 11] [] rfl rfl (by decide) (by decide) hk1 hFc hP1 hD1
    generalize H1 = H at hP hS ⊢
    have hP : va_P (dC, dI) vwCl (wX cI cJ cZ a kd lo hi vl nd so fr tg gn nr mo ma fa (k_sv vl sv se sh nd) (k_sd sd se sh nd) (k_se se sh) (k_sh sh)) H := hP
    have hD : va_D A (wX cI cJ cZ a kd lo hi vl nd so fr tg gn nr mo ma fa (k_sv vl sv se sh nd) (k_sd sd se sh nd) (k_se se sh) (k_sh sh)) := hD
    refine lv_aload_n hx hb dX2_move_22 rfl (lv_at hl 0 rfl) ?_
    refine va_get (D := (dC, dI)) (ci := 1) (v := .ref (a 4)) (C := RX2) (T := TX2) (N := 14) hx hb hts h_inX2 hown hK hP 0 rfl rfl 3 (by decide) k_1 (fun _ h9 => h9) rfl dX2_move_23 ?_
    refine lv_iload_n hx hb dX2_move_26 rfl (lv_at hl 1 rfl) ?_
    refine lv_lload_n hx hb dX2_move_27 rfl (lv_at hl 2 rfl) ?_
    refine va_last hx hb hK hP hD hS 4 1 rfl rfl (by assumption) dX2_move_28 (fun H locs hP hD hS => ?_)
    have hP : va_P (dC, dI) vwCl (wX cI cJ cZ a kd lo hi (vp_updL vl p0.toNatClampNeg p1) nd so fr tg gn nr mo ma fa (k_sv vl sv se sh nd) (k_sd sd se sh nd) (k_se se sh) (k_sh sh)) H := hP
    have hD : va_D A (wX cI cJ cZ a kd lo hi (vp_updL vl p0.toNatClampNeg p1) nd so fr tg gn nr mo ma fa (k_sv vl sv se sh nd) (k_sd sd se sh nd) (k_se se sh) (k_sh sh)) := hD
    refine lv_aload_n hx hb dX2_move_29 rfl (lv_at hl 0 rfl) ?_
    refine lv_dup hx hb dX2_move_30 rfl ?_
    refine va_get (D := (dC, dI)) (ci := 1) (v := .int mo) (C := RX2) (T := TX2) (N := 14) hx hb hts h_inX2 hown hK hP 0 rfl rfl 11 (by decide) k_0 (fun _ h9 => h9) rfl dX2_move_31 ?_
    refine lv_iconst (v := 1) hx hb dX2_move_34 (by decide) ?_
    refine lv_iadd hx hb dX2_move_35 ?_
    refine va_put (D := (dC, dI)) (ci := 1) (v := .int (mo + (1 : Int32))) (ty := .int) (C := RX2) (T := TX2) (N := 14) hx hb hts h_inX2 tyX2 tyX2_ok nmX2 hown hK hP hD hS 0 rfl rfl 11 (by decide) k_0 (fun _ h9 => h9) rfl (by decide +kernel) rfl rfl (Nat.le_of_ble_eq_true rfl) dX2_move_36 (fun H locs hP hD hS => ?_)
    have hP : va_P (dC, dI) vwCl (wX cI cJ cZ a kd lo hi (vp_updL vl p0.toNatClampNeg p1) nd so fr tg gn nr (mo + (1 : Int32)) ma fa (k_sv vl sv se sh nd) (k_sd sd se sh nd) (k_se se sh) (k_sh sh)) H := hP
    have hD : va_D A (wX cI cJ cZ a kd lo hi (vp_updL vl p0.toNatClampNeg p1) nd so fr tg gn nr (mo + (1 : Int32)) ma fa (k_sv vl sv se sh nd) (k_sd sd se sh nd) (k_se se sh) (k_sh sh)) := hD
    refine lv_aload_n hx hb dX2_move_39 rfl (lv_at hl 0 rfl) ?_
    refine lv_dup hx hb dX2_move_40 rfl ?_
    refine va_get (D := (dC, dI)) (ci := 1) (v := .int ma) (C := RX2) (T := TX2) (N := 14) hx hb hts h_inX2 hown hK hP 0 rfl rfl 12 (by decide) k_2 (fun _ h9 => h9) rfl dX2_move_41 ?_
    refine lv_iconst (v := 1) hx hb dX2_move_44 (by decide) ?_
    refine lv_iadd hx hb dX2_move_45 ?_
    refine va_put (D := (dC, dI)) (ci := 1) (v := .int (ma + (1 : Int32))) (ty := .int) (C := RX2) (T := TX2) (N := 14) hx hb hts h_inX2 tyX2 tyX2_ok nmX2 hown hK hP hD hS 0 rfl rfl 12 (by decide) k_2 (fun _ h9 => h9) rfl (by decide +kernel) rfl rfl (Nat.le_of_ble_eq_true rfl) dX2_move_46 (fun H locs hP hD hS => ?_)
    have hP : va_P (dC, dI) vwCl (wX cI cJ cZ a kd lo hi (vp_updL vl p0.toNatClampNeg p1) nd so fr tg gn nr (mo + (1 : Int32)) (ma + (1 : Int32)) fa (k_sv vl sv se sh nd) (k_sd sd se sh nd) (k_se se sh) (k_sh sh)) H := hP
    have hD : va_D A (wX cI cJ cZ a kd lo hi (vp_updL vl p0.toNatClampNeg p1) nd so fr tg gn nr (mo + (1 : Int32)) (ma + (1 : Int32)) fa (k_sv vl sv se sh nd) (k_sd sd se sh nd) (k_se se sh) (k_sh sh)) := hD
    exact W.vret hx hb hr (fun t ht hW => ⟨⟨(kd, lo, hi, (vp_updL vl p0.toNatClampNeg p1), nd, so, fr, tg, gn, nr, (mo + (1 : Int32)), (ma + (1 : Int32)), fa, (k_sv vl sv se sh nd), (k_sd sd se sh nd), (k_se se sh), (k_sh sh)), rfl, (by unfold x_move; rw [if_pos c_1]), by rw [ht]; exact hP, va_K.moved hW.alike hK, hD⟩, hS.F ht⟩) hS.2.2 dX2_move_49
theorem x_move_eq (kd : Nat → Int32) (lo : Nat → Int64) (hi : Nat → Int64) (vl : Nat → Int64) (nd : Int32) (so : Nat → Int32) (fr : Nat → Int32) (tg : Nat → Int32) (gn : Nat → Int32) (nr : Int32) (mo : Int32) (ma : Int32) (fa : Int32) (sv : Nat → Int64) (sd : Nat → Int32) (se : Int32) (sh : Int32) (p0 : Int32) (p1 : Int64) : x_move kd lo hi vl nd so fr tg gn nr mo ma fa sv sd se sh p0 p1 = (kd, lo, hi, (vp_updL vl p0.toNatClampNeg p1), nd, so, fr, tg, gn, nr, (mo + 1), (ma + 1), fa, (if mo = 0 then (k_sv vl sv se sh nd) else sv), (if mo = 0 then (k_sd sd se sh nd) else sd), (if mo = 0 then (k_se se sh) else se), (if mo = 0 then (k_sh sh) else sh)) := by
  unfold x_move
  by_cases h : mo = 0
  · simp only [if_pos h]
  · simp only [if_neg h]
