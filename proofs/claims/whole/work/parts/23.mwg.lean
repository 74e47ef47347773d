def clr (gn : Nat → Int32) (n : Nat) : Nat → Int32 := fun j => if j < n then 0 else gn j
theorem clr_0 (gn : Nat → Int32) : clr gn 0 = gn := by
  funext j
  unfold clr
  rw [if_neg (Nat.not_lt_zero j)]
theorem clr_s (gn : Nat → Int32) {i : Nat} (h : i < 2 ^ 31) : upd (clr gn i) (nI i).toNatClampNeg 0 = clr gn (i + 1) := by
  rw [nI_clamp h]
  funext j
  unfold upd clr
  by_cases h1 : j = i
  · rw [if_pos h1, if_pos (by omega)]
  · rw [if_neg h1]
    by_cases h2 : j < i
    · rw [if_pos h2, if_pos (by omega)]
    · rw [if_neg h2, if_neg (by omega)]
set_option maxHeartbeats 4000000 in
set_option maxRecDepth 100000 in
theorem mwg_loop {p : Program} {l : Launch} {e : Env} {R : Room} {s : State} {m : MethodId} {args : Array Value} {below : List Frame} {meth : Method} {c : Code} {Q : State → Prop} {A : Nat → Prop} {dC : Nat → ClassId} {dI : Nat → Nat → Nat} {cI cJ cZ : ClassId} {a : Nat → Nat} (kd : Nat → Int32) (lo : Nat → Int64) (hi : Nat → Int64) (vl : Nat → Int64) (nd : Int32) (so : Nat → Int32) (fr : Nat → Int32) (tg : Nat → Int32) (gn : Nat → Int32) (nr : Int32) (mo : Int32) (ma : Int32) (fa : Int32) (sv : Nat → Int64) (sd : Nat → Int32) (se : Int32) (sh : Int32) (N : Nat) (p0 : Int32) (p1 : Int64) (C0 : CallFix p m c cX2_movesWhenGiven 5 s args wsX2_movesWhenGiven RX2) (hK : va_K (dC, dI) vwCl (tA cI cJ cZ) s) (hN : nr = nI N) (hN24 : N ≤ 24) (hend : ∀ (H : Heap) (locs : List Loc) (ls : Array Slot), va_P (dC, dI) vwCl (wX cI cJ cZ a kd lo hi vl nd so fr tg (clr gn N) nr mo ma fa sv sd se sh) H → va_D A (wX cI cJ cZ a kd lo hi vl nd so fr tg (clr gn N) nr mo ma fa sv sd se sh) → va_S A s.heap H locs → lv_has ls 5 [(0, .ref (a 0)), (1, .int p0), (2, .long p1)] → W p l e R s m args below meth c H locs 0 0 Q (F0 m 26 ls [])) :
    ∀ (n i : Nat) (x4 : Int32) (H : Heap) (locs : List Loc) (ls : Array Slot), i + n = N → x4 = nI i → va_P (dC, dI) vwCl (wX cI cJ cZ a kd lo hi vl nd so fr tg (clr gn i) nr mo ma fa sv sd se sh) H → va_D A (wX cI cJ cZ a kd lo hi vl nd so fr tg (clr gn i) nr mo ma fa sv sd se sh) → va_S A s.heap H locs → lv_has ls 5 [(4, .int x4), (0, .ref (a 0)), (1, .int p0), (2, .long p1)] → W p l e R s m args below meth c H locs 0 0 Q (F0 m 3 ls []) := by
  obtain ⟨hx, hb, hml, hown, hts⟩ := C0
  have h_inX2 : ∀ w ∈ wsX20, w ∈ wsX2_movesWhenGiven := fun _ h => List.mem_cons_of_mem _ (List.mem_append_left _ (List.mem_append_right _ h))
  have k_0 := hts (.fieldLink RX2 64 "DetentCabinet" "rodCount" "I") (by decide +kernel)
  have k_1 := hts (.fieldLink RX2 32 "DetentCabinet" "rodGone" "[Z") (by decide +kernel)
  intro n
  induction n with
  | zero =>
    intro i x4 H locs ls hin ex hP hD hS hl
    subst ex
    have hin9 : i = N := hin
    refine lv_iload hx hb dX2_movesWhenGiven_3 (lv_at hl 0 rfl) ?_
    refine lv_aload_n hx hb dX2_movesWhenGiven_5 rfl (lv_at hl 1 rfl) ?_
    refine va_get (D := (dC, dI)) (ci := 1) (v := .int nr) (C := RX2) (T := TX2) (N := 14) hx hb hts h_inX2 hown hK hP 0 rfl rfl 9 (by decide) k_0 (fun _ h9 => h9) rfl dX2_movesWhenGiven_6 ?_
    refine lv_icmp_ge (tgt := 26) hx hb dX2_movesWhenGiven_9 (by decide) (fun c_1 => ?_) (fun c_1 => ?_)
    · skip
      exact hend H locs ls (by rw [← hin9]; exact hP) (by rw [← hin9]; exact hD) hS (lv_sub hl [1, 2, 3] rfl)
    · skip
      exact absurd (by rw [hN]; exact nI_le (by omega) (by omega)) c_1
  | succ n ih =>
    intro i x4 H locs ls hin ex hP hD hS hl
    subst ex
    refine lv_iload hx hb dX2_movesWhenGiven_3 (lv_at hl 0 rfl) ?_
    refine lv_aload_n hx hb dX2_movesWhenGiven_5 rfl (lv_at hl 1 rfl) ?_
    refine va_get (D := (dC, dI)) (ci := 1) (v := .int nr) (C := RX2) (T := TX2) (N := 14) hx hb hts h_inX2 hown hK hP 0 rfl rfl 9 (by decide) k_0 (fun _ h9 => h9) rfl dX2_movesWhenGiven_6 ?_
    refine lv_icmp_ge (tgt := 26) hx hb dX2_movesWhenGiven_9 (by decide) (fun c_1 => ?_) (fun c_1 => ?_)
    · skip
      exact absurd (by rw [hN] at c_1; exact c_1) (nI_ge (by omega) (by omega))
    · skip
      refine lv_aload_n hx hb dX2_movesWhenGiven_12 rfl (lv_at hl 1 rfl) ?_
      refine va_get (D := (dC, dI)) (ci := 1) (v := .ref (a 8)) (C := RX2) (T := TX2) (N := 14) hx hb hts h_inX2 hown hK hP 0 rfl rfl 8 (by decide) k_1 (fun _ h9 => h9) rfl dX2_movesWhenGiven_13 ?_
      refine lv_iload hx hb dX2_movesWhenGiven_16 (lv_at hl 0 rfl) ?_
      refine lv_iconst (v := 0) hx hb dX2_movesWhenGiven_18 (by decide) ?_
      refine va_zast hx hb hK hP hD hS 8 2 rfl rfl (vp_in_nI (by omega) (by decide)) dX2_movesWhenGiven_19 (fun H locs hP hD hS => ?_)
      rw [nar_0] at hP hD
      have hP : va_P (dC, dI) vwCl (wX cI cJ cZ a kd lo hi vl nd so fr tg (upd (clr gn i) (nI i).toNatClampNeg (0 : Int32)) nr mo ma fa sv sd se sh) H := hP
      have hD : va_D A (wX cI cJ cZ a kd lo hi vl nd so fr tg (upd (clr gn i) (nI i).toNatClampNeg (0 : Int32)) nr mo ma fa sv sd se sh) := hD
      refine lv_iinc (v := ((nI i) + 1)) (lv' := [(4, .int ((nI i) + 1)), (0, .ref (a 0)), (1, .int p0), (2, .long p1)]) hx hb dX2_movesWhenGiven_20 hl (k := 0) rfl rfl (by decide) rfl (fun ls hl => ?_)
      refine lv_goto (tgt := 3) hx hb dX2_movesWhenGiven_23 (by decide) ?_
      rw [clr_s gn (by omega)] at hP hD
      exact ih (i + 1) _ H locs ls (by omega) (nI_1 i) hP hD hS (lv_sub hl [0, 1, 2, 3] rfl)
def x_movesWhenGiven (kd : Nat → Int32) (lo : Nat → Int64) (hi : Nat → Int64) (vl : Nat → Int64) (nd : Int32) (so : Nat → Int32) (fr : Nat → Int32) (tg : Nat → Int32) (gn : Nat → Int32) (nr : Int32) (mo : Int32) (ma : Int32) (fa : Int32) (sv : Nat → Int64) (sd : Nat → Int32) (se : Int32) (sh : Int32) (p0 : Int32) (p1 : Int64) : Int32 × XS :=
  ((x_gets kd lo hi nd so fr tg nr.toNatClampNeg 24 (vl, (clr gn nr.toNatClampNeg), (0 : Int32), ma, sv, sd, se, sh) p0 p1).2.2.1, kd, lo, hi, (x_gets kd lo hi nd so fr tg nr.toNatClampNeg 24 (vl, (clr gn nr.toNatClampNeg), (0 : Int32), ma, sv, sd, se, sh) p0 p1).1, nd, so, fr, tg, (x_gets kd lo hi nd so fr tg nr.toNatClampNeg 24 (vl, (clr gn nr.toNatClampNeg), (0 : Int32), ma, sv, sd, se, sh) p0 p1).2.1, nr, (x_gets kd lo hi nd so fr tg nr.toNatClampNeg 24 (vl, (clr gn nr.toNatClampNeg), (0 : Int32), ma, sv, sd, se, sh) p0 p1).2.2.1, (x_gets kd lo hi nd so fr tg nr.toNatClampNeg 24 (vl, (clr gn nr.toNatClampNeg), (0 : Int32), ma, sv, sd, se, sh) p0 p1).2.2.2.1, fa, (x_gets kd lo hi nd so fr tg nr.toNatClampNeg 24 (vl, (clr gn nr.toNatClampNeg), (0 : Int32), ma, sv, sd, se, sh) p0 p1).2.2.2.2.1, (x_gets kd lo hi nd so fr tg nr.toNatClampNeg 24 (vl, (clr gn nr.toNatClampNeg), (0 : Int32), ma, sv, sd, se, sh) p0 p1).2.2.2.2.2.1, (x_gets kd lo hi nd so fr tg nr.toNatClampNeg 24 (vl, (clr gn nr.toNatClampNeg), (0 : Int32), ma, sv, sd, se, sh) p0 p1).2.2.2.2.2.2.1, (x_gets kd lo hi nd so fr tg nr.toNatClampNeg 24 (vl, (clr gn nr.toNatClampNeg), (0 : Int32), ma, sv, sd, se, sh) p0 p1).2.2.2.2.2.2.2)
set_option maxHeartbeats 4000000 in
set_option maxRecDepth 100000 in
theorem c_X2_movesWhenGiven (l : Launch) (dC : Nat → ClassId) (dI : Nat → Nat → Nat) (cI cJ cZ : ClassId) (a : Nat → Nat) (kd : Nat → Int32) (lo : Nat → Int64) (hi : Nat → Int64) (vl : Nat → Int64) (nd : Int32) (so : Nat → Int32) (fr : Nat → Int32) (tg : Nat → Int32) (gn : Nat → Int32) (nr : Int32) (mo : Int32) (ma : Int32) (fa : Int32) (sv : Nat → Int64) (sd : Nat → Int32) (se : Int32) (sh : Int32) (p0 : Int32) (p1 : Int64) (hE : okE se sh) (hn : 0 ≤ nd ∧ nd ≤ 16) (hnr : 0 ≤ nr ∧ nr ≤ 24) (htg : ∀ j, vp_in (tg j) 16) (hd : vp_in p0 16) (sz : Nat) : Met l yX2_movesWhenGiven wsX2_movesWhenGiven ({ frames := 30, cells := 0, slots := 0, locals := 795 }) (va_Pc [.ref (a 0), .int p0, .long p1] (fun U => U.heap.size = sz ∧ va_P (dC, dI) vwCl (wX cI cJ cZ a kd lo hi vl nd so fr tg gn nr mo ma fa sv sd se sh) U.heap ∧ va_K (dC, dI) vwCl (tA cI cJ cZ) U ∧ va_D (fun _ => True) (wX cI cJ cZ a kd lo hi vl nd so fr tg gn nr mo ma fa sv sd se sh))) (va_Qi (fun (r : Int32) (u : XS) => (r, u) = x_movesWhenGiven kd lo hi vl nd so fr tg gn nr mo ma fa sv sd se sh p0 p1) (at_X dC dI cI cJ cZ (va_A (wX cI cJ cZ a kd lo hi vl nd so fr tg gn nr mo ma fa sv sd se sh) sz) a) (va_A (wX cI cJ cZ a kd lo hi vl nd so fr tg gn nr mo ma fa sv sd se sh) sz)) 0 0 (va_A (wX cI cJ cZ a kd lo hi vl nd so fr tg gn nr mo ma fa sv sd se sh) sz) := by
  refine Met.ofW (cc := cX2_movesWhenGiven) (maxL := 5) (ret := (some .int)) (by decide) rfl ?_
  intro p e s m args below meth c s₁ B hml hv
  obtain ⟨rfl, hsz, hP, hK, hD0⟩ := hv
  subst hsz
  have hD := hD0.self (sz := s.heap.size)
  generalize hAe : va_A (wX cI cJ cZ a kd lo hi vl nd so fr tg gn nr mo ma fa sv sd se sh) s.heap.size = A at hD ⊢
  have hA : ∀ q : Nat, s.heap.size ≤ q → A q := fun q h => by rw [← hAe]; exact Or.inr h
  have hS : va_S A s.heap s.heap [] := va_S.rf
  have hP : va_P (dC, dI) vwCl (wX cI cJ cZ a kd lo hi vl nd so fr tg gn nr mo ma fa sv sd se sh) s.heap := hP
  have hx := B.exec
  have hb := B.bytes
  have hr := B.returns
  have hts := atoms_spec (ws := wsX2_movesWhenGiven) B.pre
  have hown : s.vm.findClass RX2 = some m.cls := findClass_of_methodNamed B.named
  have hlocks := B.notSynchronized
  have h_inX2 : ∀ w ∈ wsX20, w ∈ wsX2_movesWhenGiven := fun _ h => List.mem_cons_of_mem _ (List.mem_append_left _ (List.mem_append_right _ h))
  have k_0 := hts (.fieldLink RX2 123 "DetentCabinet" "movesOfCall" "I") (by decide +kernel)
  have hl := lv_entry ([.ref (a 0), .int p0, .long p1]) (n := 5) (Nat.le_of_ble_eq_true rfl)
  rw [lg_entry_eq]
  generalize (lg_sl ([.ref (a 0), .int p0, .long p1]) ++ List.replicate (5 - (lg_sl ([.ref (a 0), .int p0, .long p1])).length) Slot.unset).toArray = ls at hl ⊢
  have hl : lv_has ls 5 [(0, .ref (a 0)), (1, .int p0), (2, .long p1)] := hl
  refine lv_iconst (v := 0) hx hb dX2_movesWhenGiven_0 (by decide) ?_
  refine lv_istore (lv' := [(4, .int (0 : Int32)), (0, .ref (a 0)), (1, .int p0), (2, .long p1)]) hx hb dX2_movesWhenGiven_1 hl (by decide) rfl (fun ls hl => ?_)
  refine mwg_loop kd lo hi vl nd so fr tg gn nr mo ma fa sv sd se sh nr.toNatClampNeg p0 p1 ⟨hx, hb, hml, hown, hts⟩ hK (nr_nat hnr).1 (nr_nat hnr).2 (fun H locs ls hP hD hS hl => ?_) nr.toNatClampNeg 0 _ s.heap [] ls (by omega) nI_0.symm (by rw [clr_0]; exact hP) (by rw [clr_0]; exact hD) hS (lv_sub hl [0, 1, 2, 3] rfl)
  refine lv_aload_n hx hb dX2_movesWhenGiven_26 rfl (lv_at hl 0 rfl) ?_
  refine lv_iconst (v := 0) hx hb dX2_movesWhenGiven_27 (by decide) ?_
  refine va_put (D := (dC, dI)) (ci := 1) (v := .int (0 : Int32)) (ty := .int) (C := RX2) (T := TX2) (N := 14) hx hb hts h_inX2 tyX2 tyX2_ok nmX2 hown hK hP hD hS 0 rfl rfl 11 (by decide) k_0 (fun _ h9 => h9) rfl (by decide +kernel) rfl rfl (Nat.le_of_ble_eq_true rfl) dX2_movesWhenGiven_28 (fun H locs hP hD hS => ?_)
  have hP : va_P (dC, dI) vwCl (wX cI cJ cZ a kd lo hi vl nd so fr tg (clr gn nr.toNatClampNeg) nr (0 : Int32) ma fa sv sd se sh) H := hP
  have hD : va_D A (wX cI cJ cZ a kd lo hi vl nd so fr tg (clr gn nr.toNatClampNeg) nr (0 : Int32) ma fa sv sd se sh) := hD
  refine lv_aload_n hx hb dX2_movesWhenGiven_31 rfl (lv_at hl 0 rfl) ?_
  refine lv_iload_n hx hb dX2_movesWhenGiven_32 rfl (lv_at hl 1 rfl) ?_
  refine lv_lload_n hx hb dX2_movesWhenGiven_33 rfl (lv_at hl 2 rfl) ?_
  refine lv_iconst (v := 0) hx hb dX2_movesWhenGiven_34 (by decide) ?_
  have hFc := va_free (wc := (wX cI cJ cZ a kd lo hi vl nd so fr tg (clr gn nr.toNatClampNeg) nr (0 : Int32) ma fa sv sd se sh)) hD hS hA [0, 1, 2, 3, 4, 5, 6, 7, 8, 9, 10, 11] rfl
  refine W.eq (g2 := F0 m 35 ls [.int (nI (24 - 24)), .long p1, .int p0, .ref (a 0)]) rfl ?_
  refine va_callv (va_runV (As := [.int p0, .long p1, .int (nI (24 - 24))]) (rest := []) ⟨hx, hb, hml, hown, hts⟩ (gets_all l dC dI cI cJ cZ a kd lo hi nd so fr tg nr fa hn hnr htg 24 (Nat.le_refl _) vl (clr gn nr.toNatClampNeg) (0 : Int32) ma sv sd se sh p0 p1 hE hd H.size) (cwV 3 hts gX2_movesWhenGiven_X2_gets rfl rfl rfl (by decide +kernel) ⟨Nat.le_of_ble_eq_true rfl, Nat.le_of_ble_eq_true rfl⟩) (fb_m hK hP hD (va_recv hK hP (ci := 1) (q0 := 0) rfl rfl)) rfl rfl hl.1 rfl (lv_room (Nat.le_of_ble_eq_true rfl)) dX2_movesWhenGiven_35 ⟨Nat.zero_le _, Nat.zero_le _⟩) hS (fun q _ h => hFc q h) hFc (fun u t H1 locs ht hvm hw_1 hB hz1 hk1 hS => ?_)
  obtain ⟨kd_1, lo_1, hi_1, vl_1, nd_1, so_1, fr_1, tg_1, gn_1, nr_1, mo_1, ma_1, fa_1, sv_1, sd_1, se_1, sh_1⟩ := u
  have hw_1 := hw_1.symm
  simp only [Prod.mk.injEq] at hw_1
  obtain ⟨rfl, rfl, rfl, rfl, rfl, rfl, rfl, rfl, rfl, rfl, rfl, rfl, rfl, rfl, rfl, rfl, rfl⟩ := hw_1
  obtain ⟨hP1, hK1, hD1⟩ := hB
  rw [ht] at hP1
  obtain ⟨hP, hD⟩ := va_join (wr := []) (w1 := (wX cI cJ cZ a kd lo hi ((x_gets kd lo hi nd so fr tg nr.toNatClampNeg 24 (vl, (clr gn nr.toNatClampNeg), (0 : Int32), ma, sv, sd, se, sh) p0 p1).1) nd so fr tg ((x_gets kd lo hi nd so fr tg nr.toNatClampNeg 24 (vl, (clr gn nr.toNatClampNeg), (0 : Int32), ma, sv, sd, se, sh) p0 p1).2.1) nr ((x_gets kd lo hi nd so fr tg nr.toNatClampNeg 24 (vl, (clr gn nr.toNatClampNeg), (0 : Int32), ma, sv, sd, se, sh) p0 p1).2.2.1) ((x_gets kd lo hi nd so fr tg nr.toNatClampNeg 24 (vl, (clr gn nr.toNatClampNeg), (0 : Int32), ma, sv, sd, se, sh) p0 p1).2.2.2.1) fa ((x_gets kd lo hi nd so fr tg nr.toNatClampNeg 24 (vl, (clr gn nr.toNatClampNeg), (0 : Int32), ma, sv, sd, se, sh) p0 p1).2.2.2.2.1) ((x_gets kd lo hi nd so fr tg nr.toNatClampNeg 24 (vl, (clr gn nr.toNatClampNeg), (0 : Int32), ma, sv, sd, se, sh) p0 p1).2.2.2.2.2.1) ((x_gets kd lo hi nd so fr tg nr.toNatClampNeg 24 (vl, (clr gn nr.toNatClampNeg), (0 : Int32), ma, sv, sd, se, sh) p0 p1).2.2.2.2.2.2.1) ((x_gets kd lo hi nd so fr tg nr.toNatClampNeg 24 (vl, (clr gn nr.toNatClampNeg), (0 : Int32), ma, sv, sd, se, sh) p0 p1).2.2.2.2.2.2.2))) hP hD [0, 1, 2, 3, 4, 5, 6, 7, 8, 9, 10, 11] [] rfl rfl (by decide) (by decide) hk1 hFc hP1 hD1
  generalize H1 = H at hP hS ⊢
  have hP : va_P (dC, dI) vwCl (wX cI cJ cZ a kd lo hi ((x_gets kd lo hi nd so fr tg nr.toNatClampNeg 24 (vl, (clr gn nr.toNatClampNeg), (0 : Int32), ma, sv, sd, se, sh) p0 p1).1) nd so fr tg ((x_gets kd lo hi nd so fr tg nr.toNatClampNeg 24 (vl, (clr gn nr.toNatClampNeg), (0 : Int32), ma, sv, sd, se, sh) p0 p1).2.1) nr ((x_gets kd lo hi nd so fr tg nr.toNatClampNeg 24 (vl, (clr gn nr.toNatClampNeg), (0 : Int32), ma, sv, sd, se, sh) p0 p1).2.2.1) ((x_gets kd lo hi nd so fr tg nr.toNatClampNeg 24 (vl, (clr gn nr.toNatClampNeg), (0 : Int32), ma, sv, sd, se, sh) p0 p1).2.2.2.1) fa ((x_gets kd lo hi nd so fr tg nr.toNatClampNeg 24 (vl, (clr gn nr.toNatClampNeg), (0 : Int32), ma, sv, sd, se, sh) p0 p1).2.2.2.2.1) ((x_gets kd lo hi nd so fr tg nr.toNatClampNeg 24 (vl, (clr gn nr.toNatClampNeg), (0 : Int32), ma, sv, sd, se, sh) p0 p1).2.2.2.2.2.1) ((x_gets kd lo hi nd so fr tg nr.toNatClampNeg 24 (vl, (clr gn nr.toNatClampNeg), (0 : Int32), ma, sv, sd, se, sh) p0 p1).2.2.2.2.2.2.1) ((x_gets kd lo hi nd so fr tg nr.toNatClampNeg 24 (vl, (clr gn nr.toNatClampNeg), (0 : Int32), ma, sv, sd, se, sh) p0 p1).2.2.2.2.2.2.2)) H := hP
  have hD : va_D A (wX cI cJ cZ a kd lo hi ((x_gets kd lo hi nd so fr tg nr.toNatClampNeg 24 (vl, (clr gn nr.toNatClampNeg), (0 : Int32), ma, sv, sd, se, sh) p0 p1).1) nd so fr tg ((x_gets kd lo hi nd so fr tg nr.toNatClampNeg 24 (vl, (clr gn nr.toNatClampNeg), (0 : Int32), ma, sv, sd, se, sh) p0 p1).2.1) nr ((x_gets kd lo hi nd so fr tg nr.toNatClampNeg 24 (vl, (clr gn nr.toNatClampNeg), (0 : Int32), ma, sv, sd, se, sh) p0 p1).2.2.1) ((x_gets kd lo hi nd so fr tg nr.toNatClampNeg 24 (vl, (clr gn nr.toNatClampNeg), (0 : Int32), ma, sv, sd, se, sh) p0 p1).2.2.2.1) fa ((x_gets kd lo hi nd so fr tg nr.toNatClampNeg 24 (vl, (clr gn nr.toNatClampNeg), (0 : Int32), ma, sv, sd, se, sh) p0 p1).2.2.2.2.1) ((x_gets kd lo hi nd so fr tg nr.toNatClampNeg 24 (vl, (clr gn nr.toNatClampNeg), (0 : Int32), ma, sv, sd, se, sh) p0 p1).2.2.2.2.2.1) ((x_gets kd lo hi nd so fr tg nr.toNatClampNeg 24 (vl, (clr gn nr.toNatClampNeg), (0 : Int32), ma, sv, sd, se, sh) p0 p1).2.2.2.2.2.2.1) ((x_gets kd lo hi nd so fr tg nr.toNatClampNeg 24 (vl, (clr gn nr.toNatClampNeg), (0 : Int32), ma, sv, sd, se, sh) p0 p1).2.2.2.2.2.2.2)) := hD
  refine lv_aload_n hx hb dX2_movesWhenGiven_38 rfl (lv_at hl 0 rfl) ?_
  refine va_get (D := (dC, dI)) (ci := 1) (v := .int ((x_gets kd lo hi nd so fr tg nr.toNatClampNeg 24 (vl, (clr gn nr.toNatClampNeg), (0 : Int32), ma, sv, sd, se, sh) p0 p1).2.2.1)) (C := RX2) (T := TX2) (N := 14) hx hb hts h_inX2 hown hK hP 0 rfl rfl 11 (by decide) k_0 (fun _ h9 => h9) rfl dX2_movesWhenGiven_39 ?_
  exact W.iret (v := (x_gets kd lo hi nd so fr tg nr.toNatClampNeg 24 (vl, (clr gn nr.toNatClampNeg), (0 : Int32), ma, sv, sd, se, sh) p0 p1).2.2.1) hx hb hr (fun t ht hW => ⟨⟨(x_gets kd lo hi nd so fr tg nr.toNatClampNeg 24 (vl, (clr gn nr.toNatClampNeg), (0 : Int32), ma, sv, sd, se, sh) p0 p1).2.2.1, (kd, lo, hi, (x_gets kd lo hi nd so fr tg nr.toNatClampNeg 24 (vl, (clr gn nr.toNatClampNeg), (0 : Int32), ma, sv, sd, se, sh) p0 p1).1, nd, so, fr, tg, (x_gets kd lo hi nd so fr tg nr.toNatClampNeg 24 (vl, (clr gn nr.toNatClampNeg), (0 : Int32), ma, sv, sd, se, sh) p0 p1).2.1, nr, (x_gets kd lo hi nd so fr tg nr.toNatClampNeg 24 (vl, (clr gn nr.toNatClampNeg), (0 : Int32), ma, sv, sd, se, sh) p0 p1).2.2.1, (x_gets kd lo hi nd so fr tg nr.toNatClampNeg 24 (vl, (clr gn nr.toNatClampNeg), (0 : Int32), ma, sv, sd, se, sh) p0 p1).2.2.2.1, fa, (x_gets kd lo hi nd so fr tg nr.toNatClampNeg 24 (vl, (clr gn nr.toNatClampNeg), (0 : Int32), ma, sv, sd, se, sh) p0 p1).2.2.2.2.1, (x_gets kd lo hi nd so fr tg nr.toNatClampNeg 24 (vl, (clr gn nr.toNatClampNeg), (0 : Int32), ma, sv, sd, se, sh) p0 p1).2.2.2.2.2.1, (x_gets kd lo hi nd so fr tg nr.toNatClampNeg 24 (vl, (clr gn nr.toNatClampNeg), (0 : Int32), ma, sv, sd, se, sh) p0 p1).2.2.2.2.2.2.1, (x_gets kd lo hi nd so fr tg nr.toNatClampNeg 24 (vl, (clr gn nr.toNatClampNeg), (0 : Int32), ma, sv, sd, se, sh) p0 p1).2.2.2.2.2.2.2), rfl, rfl, by rw [ht]; exact hP, va_K.moved hW.alike hK, hD⟩, hS.F ht⟩) hS.2.2 dX2_movesWhenGiven_42
theorem x_mwg_eq (kd : Nat → Int32) (lo : Nat → Int64) (hi : Nat → Int64) (vl : Nat → Int64) (nd : Int32) (so : Nat → Int32) (fr : Nat → Int32) (tg : Nat → Int32) (gn : Nat → Int32) (nr : Int32) (mo : Int32) (ma : Int32) (fa : Int32) (sv : Nat → Int64) (sd : Nat → Int32) (se : Int32) (sh : Int32) (p0 : Int32) (p1 : Int64) : x_movesWhenGiven kd lo hi vl nd so fr tg gn nr mo ma fa sv sd se sh p0 p1 = ((x_gets kd lo hi nd so fr tg nr.toNatClampNeg 24 (vl, (clr gn nr.toNatClampNeg), (0 : Int32), ma, sv, sd, se, sh) p0 p1).2.2.1, kd, lo, hi, (x_gets kd lo hi nd so fr tg nr.toNatClampNeg 24 (vl, (clr gn nr.toNatClampNeg), (0 : Int32), ma, sv, sd, se, sh) p0 p1).1, nd, so, fr, tg, (x_gets kd lo hi nd so fr tg nr.toNatClampNeg 24 (vl, (clr gn nr.toNatClampNeg), (0 : Int32), ma, sv, sd, se, sh) p0 p1).2.1, nr, (x_gets kd lo hi nd so fr tg nr.toNatClampNeg 24 (vl, (clr gn nr.toNatClampNeg), (0 : Int32), ma, sv, sd, se, sh) p0 p1).2.2.1, (x_gets kd lo hi nd so fr tg nr.toNatClampNeg 24 (vl, (clr gn nr.toNatClampNeg), (0 : Int32), ma, sv, sd, se, sh) p0 p1).2.2.2.1, fa, (x_gets kd lo hi nd so fr tg nr.toNatClampNeg 24 (vl, (clr gn nr.toNatClampNeg), (0 : Int32), ma, sv, sd, se, sh) p0 p1).2.2.2.2.1, (x_gets kd lo hi nd so fr tg nr.toNatClampNeg 24 (vl, (clr gn nr.toNatClampNeg), (0 : Int32), ma, sv, sd, se, sh) p0 p1).2.2.2.2.2.1, (x_gets kd lo hi nd so fr tg nr.toNatClampNeg 24 (vl, (clr gn nr.toNatClampNeg), (0 : Int32), ma, sv, sd, se, sh) p0 p1).2.2.2.2.2.2.1, (x_gets kd lo hi nd so fr tg nr.toNatClampNeg 24 (vl, (clr gn nr.toNatClampNeg), (0 : Int32), ma, sv, sd, se, sh) p0 p1).2.2.2.2.2.2.2) := by
  rfl
