set_option maxHeartbeats 4000000 in
set_option maxRecDepth 100000 in
theorem law_turn {p : Program} {l : Launch} {e : Env} {s : State} {m : MethodId} {below : List Frame} {meth : Method} {c : Code} {dC : Nat → ClassId} {dI : Nat → Nat → Nat} {cI cJ cZ : ClassId} {sb L : Nat} {xs : Nat → Int32} {a b : Nat → Nat} (kd : Nat → Int32) (lo : Nat → Int64) (hi : Nat → Int64) (vl : Nat → Int64) (nd : Int32) (so : Nat → Int32) (fr : Nat → Int32) (tg : Nat → Int32) (gn : Nat → Int32) (nr : Int32) (mo : Int32) (ma : Int32) (fa : Int32) (sv : Nat → Int64) (sd : Nat → Int32) (se : Int32) (sh : Int32) (gm : Nat → Int32) (kp : Nat → Int64) (ah : Nat → Int64) (kx : Nat → Int32) (st : Int32) (mp : Int32) (op : Nat → Int32) (nx : Nat → Int32) (i : Nat) (H : Heap) (locs : List Loc) (ls : Array Slot) (hL : L ≤ 3072) (hlt : i + 6 ≤ L) (C0 : lw_At p s m meth c sb L xs) (hK : va_K (dC, dI) vwCl (tA cI cJ cZ) s) (hRS : RelS kd lo hi vl nd so fr tg nr) (hRK : RelK kd nd sv sd se sh kp kx st) (hP : va_P (dC, dI) vwCl ((wX cI cJ cZ a kd lo hi vl nd so fr tg gn nr mo ma fa sv sd se sh) ++ (wM cI cJ cZ b kd vl lo hi nd so fr tg gm nr kp ah kx st mp ma fa op nx)) H) (hD : va_D (fun q : Nat => s.heap.size ≤ q) ((wX cI cJ cZ a kd lo hi vl nd so fr tg gn nr mo ma fa sv sd se sh) ++ (wM cI cJ cZ b kd vl lo hi nd so fr tg gm nr kp ah kx st mp ma fa op nx))) (hS : va_S (fun q : Nat => s.heap.size ≤ q) s.heap H locs) (hl : lv_has ls 4 [(3, .int (nI i)), (2, .ref (b 0)), (1, .ref (a 0)), (0, .ref sb)]) (hnext : ∀ (x3 : Int32) (kd : Nat → Int32) (lo : Nat → Int64) (hi : Nat → Int64) (vl : Nat → Int64) (nd : Int32) (so : Nat → Int32) (fr : Nat → Int32) (tg : Nat → Int32) (gn : Nat → Int32) (nr : Int32) (mo : Int32) (ma : Int32) (fa : Int32) (sv : Nat → Int64) (sd : Nat → Int32) (se : Int32) (sh : Int32) (gm : Nat → Int32) (kp : Nat → Int64) (ah : Nat → Int64) (kx : Nat → Int32) (st : Int32) (mp : Int32) (op : Nat → Int32) (nx : Nat → Int32) (H : Heap) (locs : List Loc) (ls : Array Slot), x3 = nI (i + 6) → RelS kd lo hi vl nd so fr tg nr → RelK kd nd sv sd se sh kp kx st → va_P (dC, dI) vwCl ((wX cI cJ cZ a kd lo hi vl nd so fr tg gn nr mo ma fa sv sd se sh) ++ (wM cI cJ cZ b kd vl lo hi nd so fr tg gm nr kp ah kx st mp ma fa op nx)) H → va_D (fun q : Nat => s.heap.size ≤ q) ((wX cI cJ cZ a kd lo hi vl nd so fr tg gn nr mo ma fa sv sd se sh) ++ (wM cI cJ cZ b kd vl lo hi nd so fr tg gm nr kp ah kx st mp ma fa op nx)) → va_S (fun q : Nat => s.heap.size ≤ q) s.heap H locs → lv_has ls 4 [(3, .int x3), (2, .ref (b 0)), (1, .ref (a 0)), (0, .ref sb)] → W p l e room_1 s m #[Value.ref sb] below meth c H locs 26 629 (lw_Z below #[Value.ref sb] s) (F0 m 18 ls [])) : W p l e room_1 s m #[Value.ref sb] below meth c H locs 26 629 (lw_Z below #[Value.ref sb] s) (F0 m 293 ls []) := by
  obtain ⟨hx, hb, hr, hml, hown, hts, hX, hbl, hlocks, hgv⟩ := C0
  have hts : ∀ w ∈ wsL_law, w.before #[Value.ref sb] s = true := fun w h => hts w (wsL_law_in w h)
  have hown : s.vm.findClass RL = some m.cls := hown
  have hb : c.code = cL_law := hb
  have hA : ∀ q : Nat, s.heap.size ≤ q → (fun q : Nat => s.heap.size ≤ q) q := fun _ h => h
  have hbA : ¬ (fun q : Nat => s.heap.size ≤ q) sb := Nat.not_le.mpr hbl
  refine lv_aload_n hx hb dL_law_293 rfl (lv_at hl 2 rfl) ?_
  refine lv_aload_n hx hb dL_law_294 rfl (lv_at hl 3 rfl) ?_
  refine lv_iload_n hx hb dL_law_295 rfl (lv_at hl 0 rfl) ?_
  refine lv_iconst (v := 1) hx hb dL_law_296 (by decide) ?_
  refine lv_iadd hx hb dL_law_297 ?_
  refine va_sld hx hb hX hbl hbA hS (by rw [show (1 : Int32) = nI 1 from rfl, nI_add]; exact vp_in_nI (by omega) (by omega)) dL_law_298 ?_
  refine lv_aload_n hx hb dL_law_299 rfl (lv_at hl 3 rfl) ?_
  refine lv_iload_n hx hb dL_law_300 rfl (lv_at hl 0 rfl) ?_
  refine lv_iconst (v := 2) hx hb dL_law_301 (by decide) ?_
  refine lv_iadd hx hb dL_law_302 ?_
  refine va_sld hx hb hX hbl hbA hS (by rw [show (2 : Int32) = nI 2 from rfl, nI_add]; exact vp_in_nI (by omega) (by omega)) dL_law_303 ?_
  have hPc := hP.sub (ws' := (wX cI cJ cZ a kd lo hi vl nd so fr tg gn nr mo ma fa sv sd se sh)) [0, 1, 2, 3, 4, 5, 6, 7, 8, 9, 10, 11] rfl
  have hDc := hD.sub (ws' := (wX cI cJ cZ a kd lo hi vl nd so fr tg gn nr mo ma fa sv sd se sh)) [0, 1, 2, 3, 4, 5, 6, 7, 8, 9, 10, 11] (by decide) rfl
  have hFc := va_free (wc := (wX cI cJ cZ a kd lo hi vl nd so fr tg gn nr mo ma fa sv sd se sh)) hD hS hA [0, 1, 2, 3, 4, 5, 6, 7, 8, 9, 10, 11] rfl
  refine va_calli (va_runV (As := [.int (xs ((nI i) + (1 : Int32)).toNatClampNeg), .int (xs ((nI i) + (2 : Int32)).toNatClampNeg)]) (rest := []) ⟨hx, hb, hml, hown, hts⟩ (c_X2_turn l dC dI cI cJ cZ a kd lo hi vl nd so fr tg gn nr mo ma fa sv sd se sh (xs ((nI i) + (1 : Int32)).toNatClampNeg) (xs ((nI i) + (2 : Int32)).toNatClampNeg) hRK.1 hRS.1 hRS.2.1 hRS.2.2.1 H.size) (cwV 2 hts gL_law_X2_turn rfl rfl rfl (by decide +kernel) ⟨Nat.le_of_ble_eq_true rfl, Nat.le_of_ble_eq_true rfl⟩) (fb_m hK hPc hDc (va_recv hK hPc (ci := 1) (q0 := 0) rfl rfl)) rfl rfl hl.1 rfl (lv_room (Nat.le_of_ble_eq_true rfl)) dL_law_304 ⟨Nat.le_of_ble_eq_true rfl, Nat.le_of_ble_eq_true rfl⟩) hS (fun q _ h => hFc q h) hFc (fun r_1 u t H1 locs ht hvm hw_1 hB hz1 hk1 hS => ?_)
  obtain ⟨kd_1, lo_1, hi_1, vl_1, nd_1, so_1, fr_1, tg_1, gn_1, nr_1, mo_1, ma_1, fa_1, sv_1, sd_1, se_1, sh_1⟩ := u
  obtain ⟨hP1, hK1, hD1⟩ := hB
  rw [ht] at hP1
  obtain ⟨hP, hD⟩ := va_join (wr := (wM cI cJ cZ b kd vl lo hi nd so fr tg gm nr kp ah kx st mp ma fa op nx)) (w1 := (wX cI cJ cZ a kd_1 lo_1 hi_1 vl_1 nd_1 so_1 fr_1 tg_1 gn_1 nr_1 mo_1 ma_1 fa_1 sv_1 sd_1 se_1 sh_1)) hP hD [0, 1, 2, 3, 4, 5, 6, 7, 8, 9, 10, 11] [12, 13, 14, 15, 16, 17, 18, 19, 20, 21, 22, 23, 24, 25] rfl rfl (by decide) (by decide) hk1 hFc hP1 hD1
  generalize H1 = H at hP hS ⊢
  have hP : va_P (dC, dI) vwCl ((wM cI cJ cZ b kd vl lo hi nd so fr tg gm nr kp ah kx st mp ma fa op nx) ++ (wX cI cJ cZ a kd_1 lo_1 hi_1 vl_1 nd_1 so_1 fr_1 tg_1 gn_1 nr_1 mo_1 ma_1 fa_1 sv_1 sd_1 se_1 sh_1)) H := hP
  have hD : va_D (fun q : Nat => s.heap.size ≤ q) ((wM cI cJ cZ b kd vl lo hi nd so fr tg gm nr kp ah kx st mp ma fa op nx) ++ (wX cI cJ cZ a kd_1 lo_1 hi_1 vl_1 nd_1 so_1 fr_1 tg_1 gn_1 nr_1 mo_1 ma_1 fa_1 sv_1 sd_1 se_1 sh_1)) := hD
  refine lv_aload_n hx hb dL_law_307 rfl (lv_at hl 1 rfl) ?_
  refine lv_aload_n hx hb dL_law_308 rfl (lv_at hl 3 rfl) ?_
  refine lv_iload_n hx hb dL_law_309 rfl (lv_at hl 0 rfl) ?_
  refine lv_iconst (v := 1) hx hb dL_law_310 (by decide) ?_
  refine lv_iadd hx hb dL_law_311 ?_
  refine va_sld hx hb hX hbl hbA hS (by rw [show (1 : Int32) = nI 1 from rfl, nI_add]; exact vp_in_nI (by omega) (by omega)) dL_law_312 ?_
  refine lv_aload_n hx hb dL_law_313 rfl (lv_at hl 3 rfl) ?_
  refine lv_iload_n hx hb dL_law_314 rfl (lv_at hl 0 rfl) ?_
  refine lv_iconst (v := 2) hx hb dL_law_315 (by decide) ?_
  refine lv_iadd hx hb dL_law_316 ?_
  refine va_sld hx hb hX hbl hbA hS (by rw [show (2 : Int32) = nI 2 from rfl, nI_add]; exact vp_in_nI (by omega) (by omega)) dL_law_317 ?_
  have hPc := hP.sub (ws' := (wM cI cJ cZ b kd vl lo hi nd so fr tg gm nr kp ah kx st mp ma fa op nx)) [0, 1, 2, 3, 4, 5, 6, 7, 8, 9, 10, 11, 12, 13] rfl
  have hDc := hD.sub (ws' := (wM cI cJ cZ b kd vl lo hi nd so fr tg gm nr kp ah kx st mp ma fa op nx)) [0, 1, 2, 3, 4, 5, 6, 7, 8, 9, 10, 11, 12, 13] (by decide) rfl
  have hFc := va_free (wc := (wM cI cJ cZ b kd vl lo hi nd so fr tg gm nr kp ah kx st mp ma fa op nx)) hD hS hA [0, 1, 2, 3, 4, 5, 6, 7, 8, 9, 10, 11, 12, 13] rfl
  refine va_calli (va_runV (As := [.int (xs ((nI i) + (1 : Int32)).toNatClampNeg), .int (xs ((nI i) + (2 : Int32)).toNatClampNeg)]) (rest := [.int r_1]) ⟨hx, hb, hml, hown, hts⟩ (c_X3_turn l dC dI cI cJ cZ b kd vl lo hi nd so fr tg gm nr kp ah kx st mp ma fa op nx (xs ((nI i) + (1 : Int32)).toNatClampNeg) (xs ((nI i) + (2 : Int32)).toNatClampNeg) hRS.2.1 hRS.2.2.1 (st_ok hRK) hRS.1 H.size) (cwV 2 hts gL_law_X3_turn rfl rfl rfl (by decide +kernel) ⟨Nat.le_of_ble_eq_true rfl, Nat.le_of_ble_eq_true rfl⟩) (fb_m hK hPc hDc (va_recv hK hPc (ci := 2) (q0 := 0) rfl rfl)) rfl rfl hl.1 rfl (lv_room (Nat.le_of_ble_eq_true rfl)) dL_law_318 ⟨Nat.le_of_ble_eq_true rfl, Nat.le_of_ble_eq_true rfl⟩) hS (fun q _ h => hFc q h) hFc (fun r_2 u t H1 locs ht hvm hw_2 hB hz1 hk1 hS => ?_)
  obtain ⟨kd_2, vl_2, lo_2, hi_2, nd_2, so_2, fr_2, tg_2, gm_2, nr_2, kp_2, ah_2, kx_2, st_2, mp_2, ma_2, fa_2, op_2, nx_2⟩ := u
  obtain ⟨hP1, hK1, hD1⟩ := hB
  rw [ht] at hP1
  obtain ⟨hP, hD⟩ := va_join (wr := (wX cI cJ cZ a kd_1 lo_1 hi_1 vl_1 nd_1 so_1 fr_1 tg_1 gn_1 nr_1 mo_1 ma_1 fa_1 sv_1 sd_1 se_1 sh_1)) (w1 := (wM cI cJ cZ b kd_2 vl_2 lo_2 hi_2 nd_2 so_2 fr_2 tg_2 gm_2 nr_2 kp_2 ah_2 kx_2 st_2 mp_2 ma_2 fa_2 op_2 nx_2)) hP hD [0, 1, 2, 3, 4, 5, 6, 7, 8, 9, 10, 11, 12, 13] [14, 15, 16, 17, 18, 19, 20, 21, 22, 23, 24, 25] rfl rfl (by decide) (by decide) hk1 hFc hP1 hD1
  generalize H1 = H at hP hS ⊢
  have hP : va_P (dC, dI) vwCl ((wX cI cJ cZ a kd_1 lo_1 hi_1 vl_1 nd_1 so_1 fr_1 tg_1 gn_1 nr_1 mo_1 ma_1 fa_1 sv_1 sd_1 se_1 sh_1) ++ (wM cI cJ cZ b kd_2 vl_2 lo_2 hi_2 nd_2 so_2 fr_2 tg_2 gm_2 nr_2 kp_2 ah_2 kx_2 st_2 mp_2 ma_2 fa_2 op_2 nx_2)) H := hP
  have hD : va_D (fun q : Nat => s.heap.size ≤ q) ((wX cI cJ cZ a kd_1 lo_1 hi_1 vl_1 nd_1 so_1 fr_1 tg_1 gn_1 nr_1 mo_1 ma_1 fa_1 sv_1 sd_1 se_1 sh_1) ++ (wM cI cJ cZ b kd_2 vl_2 lo_2 hi_2 nd_2 so_2 fr_2 tg_2 gm_2 nr_2 kp_2 ah_2 kx_2 st_2 mp_2 ma_2 fa_2 op_2 nx_2)) := hD
  obtain ⟨op9, nx9, hw_2⟩ := hw_2
  have hpo : Post (r_1, kd_1, lo_1, hi_1, vl_1, nd_1, so_1, fr_1, tg_1, gn_1, nr_1, mo_1, ma_1, fa_1, sv_1, sd_1, se_1, sh_1) (r_2, kd_2, vl_2, lo_2, hi_2, nd_2, so_2, fr_2, tg_2, gm_2, nr_2, kp_2, ah_2, kx_2, st_2, mp_2, ma_2, fa_2, op_2, nx_2) := by rw [hw_1, hw_2]; exact op_turn hRS hRK
  obtain ⟨rfl, rfl, rfl, rfl, rfl, rfl, rfl, rfl, rfl, rfl, rfl, rfl, hRS, hRK⟩ := hpo
  refine lv_icmp_eq (tgt := 472) hx hb dL_law_321 (by decide) (fun c_1 => ?_) (fun c_1 => ?_)
  · skip
    refine lv_iinc (v := ((nI i) + 6)) (lv' := [(3, .int ((nI i) + 6)), (2, .ref (b 0)), (1, .ref (a 0)), (0, .ref sb)]) hx hb dL_law_472 hl (k := 0) rfl rfl (by decide) rfl (fun ls hl => ?_)
    refine lv_goto (tgt := 18) hx hb dL_law_475 (by decide) ?_
    exact hnext _ kd_1 lo_1 hi_1 vl_1 nd_1 so_1 fr_1 tg_1 gn_1 nr_1 mo_1 ma_1 fa_1 sv_1 sd_1 se_1 sh_1 gm_2 kp_2 ah_2 kx_2 st_2 mp_2 op_2 nx_2 H locs ls (show nI i + 6 = nI (i + 6) from nI_add i 6) hRS hRK hP hD hS (lv_sub hl [0, 1, 2, 3] rfl)
  · skip
    exact absurd rfl c_1
set_option maxHeartbeats 4000000 in
set_option maxRecDepth 100000 in
theorem law_take {p : Program} {l : Launch} {e : Env} {s : State} {m : MethodId} {below : List Frame} {meth : Method} {c : Code} {dC : Nat → ClassId} {dI : Nat → Nat → Nat} {cI cJ cZ : ClassId} {sb L : Nat} {xs : Nat → Int32} {a b : Nat → Nat} (kd : Nat → Int32) (lo : Nat → Int64) (hi : Nat → Int64) (vl : Nat → Int64) (nd : Int32) (so : Nat → Int32) (fr : Nat → Int32) (tg : Nat → Int32) (gn : Nat → Int32) (nr : Int32) (mo : Int32) (ma : Int32) (fa : Int32) (sv : Nat → Int64) (sd : Nat → Int32) (se : Int32) (sh : Int32) (gm : Nat → Int32) (kp : Nat → Int64) (ah : Nat → Int64) (kx : Nat → Int32) (st : Int32) (mp : Int32) (op : Nat → Int32) (nx : Nat → Int32) (i : Nat) (H : Heap) (locs : List Loc) (ls : Array Slot) (hL : L ≤ 3072) (hlt : i + 6 ≤ L) (C0 : lw_At p s m meth c sb L xs) (hK : va_K (dC, dI) vwCl (tA cI cJ cZ) s) (hRS : RelS kd lo hi vl nd so fr tg nr) (hRK : RelK kd nd sv sd se sh kp kx st) (hP : va_P (dC, dI) vwCl ((wX cI cJ cZ a kd lo hi vl nd so fr tg gn nr mo ma fa sv sd se sh) ++ (wM cI cJ cZ b kd vl lo hi nd so fr tg gm nr kp ah kx st mp ma fa op nx)) H) (hD : va_D (fun q : Nat => s.heap.size ≤ q) ((wX cI cJ cZ a kd lo hi vl nd so fr tg gn nr mo ma fa sv sd se sh) ++ (wM cI cJ cZ b kd vl lo hi nd so fr tg gm nr kp ah kx st mp ma fa op nx))) (hS : va_S (fun q : Nat => s.heap.size ≤ q) s.heap H locs) (hl : lv_has ls 4 [(3, .int (nI i)), (2, .ref (b 0)), (1, .ref (a 0)), (0, .ref sb)]) (hnext : ∀ (x3 : Int32) (kd : Nat → Int32) (lo : Nat → Int64) (hi : Nat → Int64) (vl : Nat → Int64) (nd : Int32) (so : Nat → Int32) (fr : Nat → Int32) (tg : Nat → Int32) (gn : Nat → Int32) (nr : Int32) (mo : Int32) (ma : Int32) (fa : Int32) (sv : Nat → Int64) (sd : Nat → Int32) (se : Int32) (sh : Int32) (gm : Nat → Int32) (kp : Nat → Int64) (ah : Nat → Int64) (kx : Nat → Int32) (st : Int32) (mp : Int32) (op : Nat → Int32) (nx : Nat → Int32) (H : Heap) (locs : List Loc) (ls : Array Slot), x3 = nI (i + 6) → RelS kd lo hi vl nd so fr tg nr → RelK kd nd sv sd se sh kp kx st → va_P (dC, dI) vwCl ((wX cI cJ cZ a kd lo hi vl nd so fr tg gn nr mo ma fa sv sd se sh) ++ (wM cI cJ cZ b kd vl lo hi nd so fr tg gm nr kp ah kx st mp ma fa op nx)) H → va_D (fun q : Nat => s.heap.size ≤ q) ((wX cI cJ cZ a kd lo hi vl nd so fr tg gn nr mo ma fa sv sd se sh) ++ (wM cI cJ cZ b kd vl lo hi nd so fr tg gm nr kp ah kx st mp ma fa op nx)) → va_S (fun q : Nat => s.heap.size ≤ q) s.heap H locs → lv_has ls 4 [(3, .int x3), (2, .ref (b 0)), (1, .ref (a 0)), (0, .ref sb)] → W p l e room_1 s m #[Value.ref sb] below meth c H locs 26 629 (lw_Z below #[Value.ref sb] s) (F0 m 18 ls [])) : W p l e room_1 s m #[Value.ref sb] below meth c H locs 26 629 (lw_Z below #[Value.ref sb] s) (F0 m 326 ls []) := by
  obtain ⟨hx, hb, hr, hml, hown, hts, hX, hbl, hlocks, hgv⟩ := C0
  have hts : ∀ w ∈ wsL_law, w.before #[Value.ref sb] s = true := fun w h => hts w (wsL_law_in w h)
  have hown : s.vm.findClass RL = some m.cls := hown
  have hb : c.code = cL_law := hb
  have hA : ∀ q : Nat, s.heap.size ≤ q → (fun q : Nat => s.heap.size ≤ q) q := fun _ h => h
  have hbA : ¬ (fun q : Nat => s.heap.size ≤ q) sb := Nat.not_le.mpr hbl
  refine lv_aload_n hx hb dL_law_326 rfl (lv_at hl 2 rfl) ?_
  refine lv_aload_n hx hb dL_law_327 rfl (lv_at hl 3 rfl) ?_
  refine lv_iload_n hx hb dL_law_328 rfl (lv_at hl 0 rfl) ?_
  refine lv_iconst (v := 1) hx hb dL_law_329 (by decide) ?_
  refine lv_iadd hx hb dL_law_330 ?_
  refine va_sld hx hb hX hbl hbA hS (by rw [show (1 : Int32) = nI 1 from rfl, nI_add]; exact vp_in_nI (by omega) (by omega)) dL_law_331 ?_
  refine lv_aload_n hx hb dL_law_332 rfl (lv_at hl 3 rfl) ?_
  refine lv_iload_n hx hb dL_law_333 rfl (lv_at hl 0 rfl) ?_
  refine lv_iconst (v := 2) hx hb dL_law_334 (by decide) ?_
  refine lv_iadd hx hb dL_law_335 ?_
  refine va_sld hx hb hX hbl hbA hS (by rw [show (2 : Int32) = nI 2 from rfl, nI_add]; exact vp_in_nI (by omega) (by omega)) dL_law_336 ?_
  refine lv_aload_n hx hb dL_law_337 rfl (lv_at hl 3 rfl) ?_
  refine lv_iload_n hx hb dL_law_338 rfl (lv_at hl 0 rfl) ?_
  refine lv_iconst (v := 3) hx hb dL_law_339 (by decide) ?_
  refine lv_iadd hx hb dL_law_340 ?_
  refine va_sld hx hb hX hbl hbA hS (by rw [show (3 : Int32) = nI 3 from rfl, nI_add]; exact vp_in_nI (by omega) (by omega)) dL_law_341 ?_
  have hPc := hP.sub (ws' := (wX cI cJ cZ a kd lo hi vl nd so fr tg gn nr mo ma fa sv sd se sh)) [0, 1, 2, 3, 4, 5, 6, 7, 8, 9, 10, 11] rfl
  have hDc := hD.sub (ws' := (wX cI cJ cZ a kd lo hi vl nd so fr tg gn nr mo ma fa sv sd se sh)) [0, 1, 2, 3, 4, 5, 6, 7, 8, 9, 10, 11] (by decide) rfl
  have hFc := va_free (wc := (wX cI cJ cZ a kd lo hi vl nd so fr tg gn nr mo ma fa sv sd se sh)) hD hS hA [0, 1, 2, 3, 4, 5, 6, 7, 8, 9, 10, 11] rfl
  refine va_calli (va_runV (As := [.int (xs ((nI i) + (1 : Int32)).toNatClampNeg), .int (xs ((nI i) + (2 : Int32)).toNatClampNeg), .int (xs ((nI i) + (3 : Int32)).toNatClampNeg)]) (rest := []) ⟨hx, hb, hml, hown, hts⟩ (c_X2_take l dC dI cI cJ cZ a kd lo hi vl nd so fr tg gn nr mo ma fa sv sd se sh (xs ((nI i) + (1 : Int32)).toNatClampNeg) (xs ((nI i) + (2 : Int32)).toNatClampNeg) (xs ((nI i) + (3 : Int32)).toNatClampNeg) hRK.1 hRS.1 hRS.2.1 hRS.2.2.1 H.size) (cwV 3 hts gL_law_X2_take rfl rfl rfl (by decide +kernel) ⟨Nat.le_of_ble_eq_true rfl, Nat.le_of_ble_eq_true rfl⟩) (fb_m hK hPc hDc (va_recv hK hPc (ci := 1) (q0 := 0) rfl rfl)) rfl rfl hl.1 rfl (lv_room (Nat.le_of_ble_eq_true rfl)) dL_law_342 ⟨Nat.le_of_ble_eq_true rfl, Nat.le_of_ble_eq_true rfl⟩) hS (fun q _ h => hFc q h) hFc (fun r_1 u t H1 locs ht hvm hw_1 hB hz1 hk1 hS => ?_)
  obtain ⟨kd_1, lo_1, hi_1, vl_1, nd_1, so_1, fr_1, tg_1, gn_1, nr_1, mo_1, ma_1, fa_1, sv_1, sd_1, se_1, sh_1⟩ := u
  obtain ⟨hP1, hK1, hD1⟩ := hB
  rw [ht] at hP1
  obtain ⟨hP, hD⟩ := va_join (wr := (wM cI cJ cZ b kd vl lo hi nd so fr tg gm nr kp ah kx st mp ma fa op nx)) (w1 := (wX cI cJ cZ a kd_1 lo_1 hi_1 vl_1 nd_1 so_1 fr_1 tg_1 gn_1 nr_1 mo_1 ma_1 fa_1 sv_1 sd_1 se_1 sh_1)) hP hD [0, 1, 2, 3, 4, 5, 6, 7, 8, 9, 10, 11] [12, 13, 14, 15, 16, 17, 18, 19, 20, 21, 22, 23, 24, 25] rfl rfl (by decide) (by decide) hk1 hFc hP1 hD1
  generalize H1 = H at hP hS ⊢
  have hP : va_P (dC, dI) vwCl ((wM cI cJ cZ b kd vl lo hi nd so fr tg gm nr kp ah kx st mp ma fa op nx) ++ (wX cI cJ cZ a kd_1 lo_1 hi_1 vl_1 nd_1 so_1 fr_1 tg_1 gn_1 nr_1 mo_1 ma_1 fa_1 sv_1 sd_1 se_1 sh_1)) H := hP
  have hD : va_D (fun q : Nat => s.heap.size ≤ q) ((wM cI cJ cZ b kd vl lo hi nd so fr tg gm nr kp ah kx st mp ma fa op nx) ++ (wX cI cJ cZ a kd_1 lo_1 hi_1 vl_1 nd_1 so_1 fr_1 tg_1 gn_1 nr_1 mo_1 ma_1 fa_1 sv_1 sd_1 se_1 sh_1)) := hD
  refine lv_aload_n hx hb dL_law_345 rfl (lv_at hl 1 rfl) ?_
  refine lv_aload_n hx hb dL_law_346 rfl (lv_at hl 3 rfl) ?_
  refine lv_iload_n hx hb dL_law_347 rfl (lv_at hl 0 rfl) ?_
  refine lv_iconst (v := 1) hx hb dL_law_348 (by decide) ?_
  refine lv_iadd hx hb dL_law_349 ?_
  refine va_sld hx hb hX hbl hbA hS (by rw [show (1 : Int32) = nI 1 from rfl, nI_add]; exact vp_in_nI (by omega) (by omega)) dL_law_350 ?_
  refine lv_aload_n hx hb dL_law_351 rfl (lv_at hl 3 rfl) ?_
  refine lv_iload_n hx hb dL_law_352 rfl (lv_at hl 0 rfl) ?_
  refine lv_iconst (v := 2) hx hb dL_law_353 (by decide) ?_
  refine lv_iadd hx hb dL_law_354 ?_
  refine va_sld hx hb hX hbl hbA hS (by rw [show (2 : Int32) = nI 2 from rfl, nI_add]; exact vp_in_nI (by omega) (by omega)) dL_law_355 ?_
  refine lv_aload_n hx hb dL_law_356 rfl (lv_at hl 3 rfl) ?_
  refine lv_iload_n hx hb dL_law_357 rfl (lv_at hl 0 rfl) ?_
  refine lv_iconst (v := 3) hx hb dL_law_358 (by decide) ?_
  refine lv_iadd hx hb dL_law_359 ?_
  refine va_sld hx hb hX hbl hbA hS (by rw [show (3 : Int32) = nI 3 from rfl, nI_add]; exact vp_in_nI (by omega) (by omega)) dL_law_360 ?_
  have hPc := hP.sub (ws' := (wM cI cJ cZ b kd vl lo hi nd so fr tg gm nr kp ah kx st mp ma fa op nx)) [0, 1, 2, 3, 4, 5, 6, 7, 8, 9, 10, 11, 12, 13] rfl
  have hDc := hD.sub (ws' := (wM cI cJ cZ b kd vl lo hi nd so fr tg gm nr kp ah kx st mp ma fa op nx)) [0, 1, 2, 3, 4, 5, 6, 7, 8, 9, 10, 11, 12, 13] (by decide) rfl
  have hFc := va_free (wc := (wM cI cJ cZ b kd vl lo hi nd so fr tg gm nr kp ah kx st mp ma fa op nx)) hD hS hA [0, 1, 2, 3, 4, 5, 6, 7, 8, 9, 10, 11, 12, 13] rfl
  refine va_calli (va_runV (As := [.int (xs ((nI i) + (1 : Int32)).toNatClampNeg), .int (xs ((nI i) + (2 : Int32)).toNatClampNeg), .int (xs ((nI i) + (3 : Int32)).toNatClampNeg)]) (rest := [.int r_1]) ⟨hx, hb, hml, hown, hts⟩ (c_X3_take l dC dI cI cJ cZ b kd vl lo hi nd so fr tg gm nr kp ah kx st mp ma fa op nx (xs ((nI i) + (1 : Int32)).toNatClampNeg) (xs ((nI i) + (2 : Int32)).toNatClampNeg) (xs ((nI i) + (3 : Int32)).toNatClampNeg) hRS.2.1 hRS.2.2.1 (st_ok hRK) hRS.1 H.size) (cwV 3 hts gL_law_X3_take rfl rfl rfl (by decide +kernel) ⟨Nat.le_of_ble_eq_true rfl, Nat.le_of_ble_eq_true rfl⟩) (fb_m hK hPc hDc (va_recv hK hPc (ci := 2) (q0 := 0) rfl rfl)) rfl rfl hl.1 rfl (lv_room (Nat.le_of_ble_eq_true rfl)) dL_law_361 ⟨Nat.le_of_ble_eq_true rfl, Nat.le_of_ble_eq_true rfl⟩) hS (fun q _ h => hFc q h) hFc (fun r_2 u t H1 locs ht hvm hw_2 hB hz1 hk1 hS => ?_)
  obtain ⟨kd_2, vl_2, lo_2, hi_2, nd_2, so_2, fr_2, tg_2, gm_2, nr_2, kp_2, ah_2, kx_2, st_2, mp_2, ma_2, fa_2, op_2, nx_2⟩ := u
  obtain ⟨hP1, hK1, hD1⟩ := hB
  rw [ht] at hP1
  obtain ⟨hP, hD⟩ := va_join (wr := (wX cI cJ cZ a kd_1 lo_1 hi_1 vl_1 nd_1 so_1 fr_1 tg_1 gn_1 nr_1 mo_1 ma_1 fa_1 sv_1 sd_1 se_1 sh_1)) (w1 := (wM cI cJ cZ b kd_2 vl_2 lo_2 hi_2 nd_2 so_2 fr_2 tg_2 gm_2 nr_2 kp_2 ah_2 kx_2 st_2 mp_2 ma_2 fa_2 op_2 nx_2)) hP hD [0, 1, 2, 3, 4, 5, 6, 7, 8, 9, 10, 11, 12, 13] [14, 15, 16, 17, 18, 19, 20, 21, 22, 23, 24, 25] rfl rfl (by decide) (by decide) hk1 hFc hP1 hD1
  generalize H1 = H at hP hS ⊢
  have hP : va_P (dC, dI) vwCl ((wX cI cJ cZ a kd_1 lo_1 hi_1 vl_1 nd_1 so_1 fr_1 tg_1 gn_1 nr_1 mo_1 ma_1 fa_1 sv_1 sd_1 se_1 sh_1) ++ (wM cI cJ cZ b kd_2 vl_2 lo_2 hi_2 nd_2 so_2 fr_2 tg_2 gm_2 nr_2 kp_2 ah_2 kx_2 st_2 mp_2 ma_2 fa_2 op_2 nx_2)) H := hP
  have hD : va_D (fun q : Nat => s.heap.size ≤ q) ((wX cI cJ cZ a kd_1 lo_1 hi_1 vl_1 nd_1 so_1 fr_1 tg_1 gn_1 nr_1 mo_1 ma_1 fa_1 sv_1 sd_1 se_1 sh_1) ++ (wM cI cJ cZ b kd_2 vl_2 lo_2 hi_2 nd_2 so_2 fr_2 tg_2 gm_2 nr_2 kp_2 ah_2 kx_2 st_2 mp_2 ma_2 fa_2 op_2 nx_2)) := hD
  obtain ⟨op9, nx9, hw_2⟩ := hw_2
  have hpo : Post (r_1, kd_1, lo_1, hi_1, vl_1, nd_1, so_1, fr_1, tg_1, gn_1, nr_1, mo_1, ma_1, fa_1, sv_1, sd_1, se_1, sh_1) (r_2, kd_2, vl_2, lo_2, hi_2, nd_2, so_2, fr_2, tg_2, gm_2, nr_2, kp_2, ah_2, kx_2, st_2, mp_2, ma_2, fa_2, op_2, nx_2) := by rw [hw_1, hw_2]; exact op_take hRS hRK
  obtain ⟨rfl, rfl, rfl, rfl, rfl, rfl, rfl, rfl, rfl, rfl, rfl, rfl, hRS, hRK⟩ := hpo
  refine lv_icmp_eq (tgt := 472) hx hb dL_law_364 (by decide) (fun c_1 => ?_) (fun c_1 => ?_)
  · skip
    refine lv_iinc (v := ((nI i) + 6)) (lv' := [(3, .int ((nI i) + 6)), (2, .ref (b 0)), (1, .ref (a 0)), (0, .ref sb)]) hx hb dL_law_472 hl (k := 0) rfl rfl (by decide) rfl (fun ls hl => ?_)
    refine lv_goto (tgt := 18) hx hb dL_law_475 (by decide) ?_
    exact hnext _ kd_1 lo_1 hi_1 vl_1 nd_1 so_1 fr_1 tg_1 gn_1 nr_1 mo_1 ma_1 fa_1 sv_1 sd_1 se_1 sh_1 gm_2 kp_2 ah_2 kx_2 st_2 mp_2 op_2 nx_2 H locs ls (show nI i + 6 = nI (i + 6) from nI_add i 6) hRS hRK hP hD hS (lv_sub hl [0, 1, 2, 3] rfl)
  · skip
    exact absurd rfl c_1
set_option maxHeartbeats 4000000 in
set_option maxRecDepth 100000 in
theorem law_back {p : Program} {l : Launch} {e : Env} {s : State} {m : MethodId} {below : List Frame} {meth : Method} {c : Code} {dC : Nat → ClassId} {dI : Nat → Nat → Nat} {cI cJ cZ : ClassId} {sb L : Nat} {xs : Nat → Int32} {a b : Nat → Nat} (kd : Nat → Int32) (lo : Nat → Int64) (hi : Nat → Int64) (vl : Nat → Int64) (nd : Int32) (so : Nat → Int32) (fr : Nat → Int32) (tg : Nat → Int32) (gn : Nat → Int32) (nr : Int32) (mo : Int32) (ma : Int32) (fa : Int32) (sv : Nat → Int64) (sd : Nat → Int32) (se : Int32) (sh : Int32) (gm : Nat → Int32) (kp : Nat → Int64) (ah : Nat → Int64) (kx : Nat → Int32) (st : Int32) (mp : Int32) (op : Nat → Int32) (nx : Nat → Int32) (i : Nat) (H : Heap) (locs : List Loc) (ls : Array Slot) (hL : L ≤ 3072) (hlt : i + 6 ≤ L) (C0 : lw_At p s m meth c sb L xs) (hK : va_K (dC, dI) vwCl (tA cI cJ cZ) s) (hRS : RelS kd lo hi vl nd so fr tg nr) (hRK : RelK kd nd sv sd se sh kp kx st) (hP : va_P (dC, dI) vwCl ((wX cI cJ cZ a kd lo hi vl nd so fr tg gn nr mo ma fa sv sd se sh) ++ (wM cI cJ cZ b kd vl lo hi nd so fr tg gm nr kp ah kx st mp ma fa op nx)) H) (hD : va_D (fun q : Nat => s.heap.size ≤ q) ((wX cI cJ cZ a kd lo hi vl nd so fr tg gn nr mo ma fa sv sd se sh) ++ (wM cI cJ cZ b kd vl lo hi nd so fr tg gm nr kp ah kx st mp ma fa op nx))) (hS : va_S (fun q : Nat => s.heap.size ≤ q) s.heap H locs) (hl : lv_has ls 4 [(3, .int (nI i)), (2, .ref (b 0)), (1, .ref (a 0)), (0, .ref sb)]) (hnext : ∀ (x3 : Int32) (kd : Nat → Int32) (lo : Nat → Int64) (hi : Nat → Int64) (vl : Nat → Int64) (nd : Int32) (so : Nat → Int32) (fr : Nat → Int32) (tg : Nat → Int32) (gn : Nat → Int32) (nr : Int32) (mo : Int32) (ma : Int32) (fa : Int32) (sv : Nat → Int64) (sd : Nat → Int32) (se : Int32) (sh : Int32) (gm : Nat → Int32) (kp : Nat → Int64) (ah : Nat → Int64) (kx : Nat → Int32) (st : Int32) (mp : Int32) (op : Nat → Int32) (nx : Nat → Int32) (H : Heap) (locs : List Loc) (ls : Array Slot), x3 = nI (i + 6) → RelS kd lo hi vl nd so fr tg nr → RelK kd nd sv sd se sh kp kx st → va_P (dC, dI) vwCl ((wX cI cJ cZ a kd lo hi vl nd so fr tg gn nr mo ma fa sv sd se sh) ++ (wM cI cJ cZ b kd vl lo hi nd so fr tg gm nr kp ah kx st mp ma fa op nx)) H → va_D (fun q : Nat => s.heap.size ≤ q) ((wX cI cJ cZ a kd lo hi vl nd so fr tg gn nr mo ma fa sv sd se sh) ++ (wM cI cJ cZ b kd vl lo hi nd so fr tg gm nr kp ah kx st mp ma fa op nx)) → va_S (fun q : Nat => s.heap.size ≤ q) s.heap H locs → lv_has ls 4 [(3, .int x3), (2, .ref (b 0)), (1, .ref (a 0)), (0, .ref sb)] → W p l e room_1 s m #[Value.ref sb] below meth c H locs 26 629 (lw_Z below #[Value.ref sb] s) (F0 m 18 ls [])) : W p l e room_1 s m #[Value.ref sb] below meth c H locs 26 629 (lw_Z below #[Value.ref sb] s) (F0 m 369 ls []) := by
  obtain ⟨hx, hb, hr, hml, hown, hts, hX, hbl, hlocks, hgv⟩ := C0
  have hts : ∀ w ∈ wsL_law, w.before #[Value.ref sb] s = true := fun w h => hts w (wsL_law_in w h)
  have hown : s.vm.findClass RL = some m.cls := hown
  have hb : c.code = cL_law := hb
  have hA : ∀ q : Nat, s.heap.size ≤ q → (fun q : Nat => s.heap.size ≤ q) q := fun _ h => h
  have hbA : ¬ (fun q : Nat => s.heap.size ≤ q) sb := Nat.not_le.mpr hbl
  refine lv_aload_n hx hb dL_law_369 rfl (lv_at hl 2 rfl) ?_
  have hPc := hP.sub (ws' := (wX cI cJ cZ a kd lo hi vl nd so fr tg gn nr mo ma fa sv sd se sh)) [0, 1, 2, 3, 4, 5, 6, 7, 8, 9, 10, 11] rfl
  have hDc := hD.sub (ws' := (wX cI cJ cZ a kd lo hi vl nd so fr tg gn nr mo ma fa sv sd se sh)) [0, 1, 2, 3, 4, 5, 6, 7, 8, 9, 10, 11] (by decide) rfl
  have hFc := va_free (wc := (wX cI cJ cZ a kd lo hi vl nd so fr tg gn nr mo ma fa sv sd se sh)) hD hS hA [0, 1, 2, 3, 4, 5, 6, 7, 8, 9, 10, 11] rfl
  refine va_calli (va_runV (As := []) (rest := []) ⟨hx, hb, hml, hown, hts⟩ (c_X2_back l dC dI cI cJ cZ a kd lo hi vl nd so fr tg gn nr mo ma fa sv sd se sh  hRK.1 hRK.2.2.1 H.size) (cwV 0 hts gL_law_X2_back rfl rfl rfl (by decide +kernel) ⟨Nat.le_of_ble_eq_true rfl, Nat.le_of_ble_eq_true rfl⟩) (fb_m hK hPc hDc (va_recv hK hPc (ci := 1) (q0 := 0) rfl rfl)) rfl rfl hl.1 rfl (lv_room (Nat.le_of_ble_eq_true rfl)) dL_law_370 ⟨Nat.le_of_ble_eq_true rfl, Nat.le_of_ble_eq_true rfl⟩) hS (fun q _ h => hFc q h) hFc (fun r_1 u t H1 locs ht hvm hw_1 hB hz1 hk1 hS => ?_)
  obtain ⟨kd_1, lo_1, hi_1, vl_1, nd_1, so_1, fr_1, tg_1, gn_1, nr_1, mo_1, ma_1, fa_1, sv_1, sd_1, se_1, sh_1⟩ := u
  obtain ⟨hP1, hK1, hD1⟩ := hB
  rw [ht] at hP1
  obtain ⟨hP, hD⟩ := va_join (wr := (wM cI cJ cZ b kd vl lo hi nd so fr tg gm nr kp ah kx st mp ma fa op nx)) (w1 := (wX cI cJ cZ a kd_1 lo_1 hi_1 vl_1 nd_1 so_1 fr_1 tg_1 gn_1 nr_1 mo_1 ma_1 fa_1 sv_1 sd_1 se_1 sh_1)) hP hD [0, 1, 2, 3, 4, 5, 6, 7, 8, 9, 10, 11] [12, 13, 14, 15, 16, 17, 18, 19, 20, 21, 22, 23, 24, 25] rfl rfl (by decide) (by decide) hk1 hFc hP1 hD1
  generalize H1 = H at hP hS ⊢
  have hP : va_P (dC, dI) vwCl ((wM cI cJ cZ b kd vl lo hi nd so fr tg gm nr kp ah kx st mp ma fa op nx) ++ (wX cI cJ cZ a kd_1 lo_1 hi_1 vl_1 nd_1 so_1 fr_1 tg_1 gn_1 nr_1 mo_1 ma_1 fa_1 sv_1 sd_1 se_1 sh_1)) H := hP
  have hD : va_D (fun q : Nat => s.heap.size ≤ q) ((wM cI cJ cZ b kd vl lo hi nd so fr tg gm nr kp ah kx st mp ma fa op nx) ++ (wX cI cJ cZ a kd_1 lo_1 hi_1 vl_1 nd_1 so_1 fr_1 tg_1 gn_1 nr_1 mo_1 ma_1 fa_1 sv_1 sd_1 se_1 sh_1)) := hD
  refine lv_aload_n hx hb dL_law_373 rfl (lv_at hl 1 rfl) ?_
  have hPc := hP.sub (ws' := (wM cI cJ cZ b kd vl lo hi nd so fr tg gm nr kp ah kx st mp ma fa op nx)) [0, 1, 2, 3, 4, 5, 6, 7, 8, 9, 10, 11, 12, 13] rfl
  have hDc := hD.sub (ws' := (wM cI cJ cZ b kd vl lo hi nd so fr tg gm nr kp ah kx st mp ma fa op nx)) [0, 1, 2, 3, 4, 5, 6, 7, 8, 9, 10, 11, 12, 13] (by decide) rfl
  have hFc := va_free (wc := (wM cI cJ cZ b kd vl lo hi nd so fr tg gm nr kp ah kx st mp ma fa op nx)) hD hS hA [0, 1, 2, 3, 4, 5, 6, 7, 8, 9, 10, 11, 12, 13] rfl
  refine va_calli (va_runV (As := []) (rest := [.int r_1]) ⟨hx, hb, hml, hown, hts⟩ (c_X3_back l dC dI cI cJ cZ b kd vl lo hi nd so fr tg gm nr kp ah kx st mp ma fa op nx  (st_ok hRK) hRK.2.2.2.1 H.size) (cwV 0 hts gL_law_X3_back rfl rfl rfl (by decide +kernel) ⟨Nat.le_of_ble_eq_true rfl, Nat.le_of_ble_eq_true rfl⟩) (fb_m hK hPc hDc (va_recv hK hPc (ci := 2) (q0 := 0) rfl rfl)) rfl rfl hl.1 rfl (lv_room (Nat.le_of_ble_eq_true rfl)) dL_law_374 ⟨Nat.le_of_ble_eq_true rfl, Nat.le_of_ble_eq_true rfl⟩) hS (fun q _ h => hFc q h) hFc (fun r_2 u t H1 locs ht hvm hw_2 hB hz1 hk1 hS => ?_)
  obtain ⟨kd_2, vl_2, lo_2, hi_2, nd_2, so_2, fr_2, tg_2, gm_2, nr_2, kp_2, ah_2, kx_2, st_2, mp_2, ma_2, fa_2, op_2, nx_2⟩ := u
  obtain ⟨hP1, hK1, hD1⟩ := hB
  rw [ht] at hP1
  obtain ⟨hP, hD⟩ := va_join (wr := (wX cI cJ cZ a kd_1 lo_1 hi_1 vl_1 nd_1 so_1 fr_1 tg_1 gn_1 nr_1 mo_1 ma_1 fa_1 sv_1 sd_1 se_1 sh_1)) (w1 := (wM cI cJ cZ b kd_2 vl_2 lo_2 hi_2 nd_2 so_2 fr_2 tg_2 gm_2 nr_2 kp_2 ah_2 kx_2 st_2 mp_2 ma_2 fa_2 op_2 nx_2)) hP hD [0, 1, 2, 3, 4, 5, 6, 7, 8, 9, 10, 11, 12, 13] [14, 15, 16, 17, 18, 19, 20, 21, 22, 23, 24, 25] rfl rfl (by decide) (by decide) hk1 hFc hP1 hD1
  generalize H1 = H at hP hS ⊢
  have hP : va_P (dC, dI) vwCl ((wX cI cJ cZ a kd_1 lo_1 hi_1 vl_1 nd_1 so_1 fr_1 tg_1 gn_1 nr_1 mo_1 ma_1 fa_1 sv_1 sd_1 se_1 sh_1) ++ (wM cI cJ cZ b kd_2 vl_2 lo_2 hi_2 nd_2 so_2 fr_2 tg_2 gm_2 nr_2 kp_2 ah_2 kx_2 st_2 mp_2 ma_2 fa_2 op_2 nx_2)) H := hP
  have hD : va_D (fun q : Nat => s.heap.size ≤ q) ((wX cI cJ cZ a kd_1 lo_1 hi_1 vl_1 nd_1 so_1 fr_1 tg_1 gn_1 nr_1 mo_1 ma_1 fa_1 sv_1 sd_1 se_1 sh_1) ++ (wM cI cJ cZ b kd_2 vl_2 lo_2 hi_2 nd_2 so_2 fr_2 tg_2 gm_2 nr_2 kp_2 ah_2 kx_2 st_2 mp_2 ma_2 fa_2 op_2 nx_2)) := hD
  have hpo : Post (r_1, kd_1, lo_1, hi_1, vl_1, nd_1, so_1, fr_1, tg_1, gn_1, nr_1, mo_1, ma_1, fa_1, sv_1, sd_1, se_1, sh_1) (r_2, kd_2, vl_2, lo_2, hi_2, nd_2, so_2, fr_2, tg_2, gm_2, nr_2, kp_2, ah_2, kx_2, st_2, mp_2, ma_2, fa_2, op_2, nx_2) := by rw [hw_1, hw_2]; exact op_back hRS hRK
  obtain ⟨rfl, rfl, rfl, rfl, rfl, rfl, rfl, rfl, rfl, rfl, rfl, rfl, hRS, hRK⟩ := hpo
  refine lv_icmp_eq (tgt := 472) hx hb dL_law_377 (by decide) (fun c_1 => ?_) (fun c_1 => ?_)
  · skip
    refine lv_iinc (v := ((nI i) + 6)) (lv' := [(3, .int ((nI i) + 6)), (2, .ref (b 0)), (1, .ref (a 0)), (0, .ref sb)]) hx hb dL_law_472 hl (k := 0) rfl rfl (by decide) rfl (fun ls hl => ?_)
    refine lv_goto (tgt := 18) hx hb dL_law_475 (by decide) ?_
    exact hnext _ kd_1 lo_1 hi_1 vl_1 nd_1 so_1 fr_1 tg_1 gn_1 nr_1 mo_1 ma_1 fa_1 sv_1 sd_1 se_1 sh_1 gm_2 kp_2 ah_2 kx_2 st_2 mp_2 op_2 nx_2 H locs ls (show nI i + 6 = nI (i + 6) from nI_add i 6) hRS hRK hP hD hS (lv_sub hl [0, 1, 2, 3] rfl)
  · skip
    exact absurd rfl c_1
set_option maxHeartbeats 4000000 in
set_option maxRecDepth 100000 in
theorem law_order {p : Program} {l : Launch} {e : Env} {s : State} {m : MethodId} {below : List Frame} {meth : Method} {c : Code} {dC : Nat → ClassId} {dI : Nat → Nat → Nat} {cI cJ cZ : ClassId} {sb L : Nat} {xs : Nat → Int32} {a b : Nat → Nat} (kd : Nat → Int32) (lo : Nat → Int64) (hi : Nat → Int64) (vl : Nat → Int64) (nd : Int32) (so : Nat → Int32) (fr : Nat → Int32) (tg : Nat → Int32) (gn : Nat → Int32) (nr : Int32) (mo : Int32) (ma : Int32) (fa : Int32) (sv : Nat → Int64) (sd : Nat → Int32) (se : Int32) (sh : Int32) (gm : Nat → Int32) (kp : Nat → Int64) (ah : Nat → Int64) (kx : Nat → Int32) (st : Int32) (mp : Int32) (op : Nat → Int32) (nx : Nat → Int32) (i : Nat) (H : Heap) (locs : List Loc) (ls : Array Slot) (hL : L ≤ 3072) (hlt : i + 6 ≤ L) (C0 : lw_At p s m meth c sb L xs) (hK : va_K (dC, dI) vwCl (tA cI cJ cZ) s) (hRS : RelS kd lo hi vl nd so fr tg nr) (hRK : RelK kd nd sv sd se sh kp kx st) (hP : va_P (dC, dI) vwCl ((wX cI cJ cZ a kd lo hi vl nd so fr tg gn nr mo ma fa sv sd se sh) ++ (wM cI cJ cZ b kd vl lo hi nd so fr tg gm nr kp ah kx st mp ma fa op nx)) H) (hD : va_D (fun q : Nat => s.heap.size ≤ q) ((wX cI cJ cZ a kd lo hi vl nd so fr tg gn nr mo ma fa sv sd se sh) ++ (wM cI cJ cZ b kd vl lo hi nd so fr tg gm nr kp ah kx st mp ma fa op nx))) (hS : va_S (fun q : Nat => s.heap.size ≤ q) s.heap H locs) (hl : lv_has ls 4 [(3, .int (nI i)), (2, .ref (b 0)), (1, .ref (a 0)), (0, .ref sb)]) (hnext : ∀ (x3 : Int32) (kd : Nat → Int32) (lo : Nat → Int64) (hi : Nat → Int64) (vl : Nat → Int64) (nd : Int32) (so : Nat → Int32) (fr : Nat → Int32) (tg : Nat → Int32) (gn : Nat → Int32) (nr : Int32) (mo : Int32) (ma : Int32) (fa : Int32) (sv : Nat → Int64) (sd : Nat → Int32) (se : Int32) (sh : Int32) (gm : Nat → Int32) (kp : Nat → Int64) (ah : Nat → Int64) (kx : Nat → Int32) (st : Int32) (mp : Int32) (op : Nat → Int32) (nx : Nat → Int32) (H : Heap) (locs : List Loc) (ls : Array Slot), x3 = nI (i + 6) → RelS kd lo hi vl nd so fr tg nr → RelK kd nd sv sd se sh kp kx st → va_P (dC, dI) vwCl ((wX cI cJ cZ a kd lo hi vl nd so fr tg gn nr mo ma fa sv sd se sh) ++ (wM cI cJ cZ b kd vl lo hi nd so fr tg gm nr kp ah kx st mp ma fa op nx)) H → va_D (fun q : Nat => s.heap.size ≤ q) ((wX cI cJ cZ a kd lo hi vl nd so fr tg gn nr mo ma fa sv sd se sh) ++ (wM cI cJ cZ b kd vl lo hi nd so fr tg gm nr kp ah kx st mp ma fa op nx)) → va_S (fun q : Nat => s.heap.size ≤ q) s.heap H locs → lv_has ls 4 [(3, .int x3), (2, .ref (b 0)), (1, .ref (a 0)), (0, .ref sb)] → W p l e room_1 s m #[Value.ref sb] below meth c H locs 26 629 (lw_Z below #[Value.ref sb] s) (F0 m 18 ls [])) : W p l e room_1 s m #[Value.ref sb] below meth c H locs 26 629 (lw_Z below #[Value.ref sb] s) (F0 m 382 ls []) := by
  obtain ⟨hx, hb, hr, hml, hown, hts, hX, hbl, hlocks, hgv⟩ := C0
  have hts : ∀ w ∈ wsL_law, w.before #[Value.ref sb] s = true := fun w h => hts w (wsL_law_in w h)
  have hown : s.vm.findClass RL = some m.cls := hown
  have hb : c.code = cL_law := hb
  have hA : ∀ q : Nat, s.heap.size ≤ q → (fun q : Nat => s.heap.size ≤ q) q := fun _ h => h
  have hbA : ¬ (fun q : Nat => s.heap.size ≤ q) sb := Nat.not_le.mpr hbl
  refine lv_aload_n hx hb dL_law_382 rfl (lv_at hl 2 rfl) ?_
  refine lv_aload_n hx hb dL_law_383 rfl (lv_at hl 3 rfl) ?_
  refine lv_iload_n hx hb dL_law_384 rfl (lv_at hl 0 rfl) ?_
  refine lv_iconst (v := 1) hx hb dL_law_385 (by decide) ?_
  refine lv_iadd hx hb dL_law_386 ?_
  refine va_sld hx hb hX hbl hbA hS (by rw [show (1 : Int32) = nI 1 from rfl, nI_add]; exact vp_in_nI (by omega) (by omega)) dL_law_387 ?_
  refine lv_aload_n hx hb dL_law_388 rfl (lv_at hl 3 rfl) ?_
  refine lv_iload_n hx hb dL_law_389 rfl (lv_at hl 0 rfl) ?_
  refine lv_iconst (v := 2) hx hb dL_law_390 (by decide) ?_
  refine lv_iadd hx hb dL_law_391 ?_
  refine va_sld hx hb hX hbl hbA hS (by rw [show (2 : Int32) = nI 2 from rfl, nI_add]; exact vp_in_nI (by omega) (by omega)) dL_law_392 ?_
  have hPc := hP.sub (ws' := (wX cI cJ cZ a kd lo hi vl nd so fr tg gn nr mo ma fa sv sd se sh)) [0, 1, 2, 3, 4, 5, 6, 7, 8, 9, 10, 11] rfl
  have hDc := hD.sub (ws' := (wX cI cJ cZ a kd lo hi vl nd so fr tg gn nr mo ma fa sv sd se sh)) [0, 1, 2, 3, 4, 5, 6, 7, 8, 9, 10, 11] (by decide) rfl
  have hFc := va_free (wc := (wX cI cJ cZ a kd lo hi vl nd so fr tg gn nr mo ma fa sv sd se sh)) hD hS hA [0, 1, 2, 3, 4, 5, 6, 7, 8, 9, 10, 11] rfl
  refine va_calli (va_runV (As := [.int (xs ((nI i) + (1 : Int32)).toNatClampNeg), .int (xs ((nI i) + (2 : Int32)).toNatClampNeg)]) (rest := []) ⟨hx, hb, hml, hown, hts⟩ (c_X2_order l dC dI cI cJ cZ a kd lo hi vl nd so fr tg gn nr mo ma fa sv sd se sh (xs ((nI i) + (1 : Int32)).toNatClampNeg) (xs ((nI i) + (2 : Int32)).toNatClampNeg) hRS.1 H.size) (cwV 2 hts gL_law_X2_order rfl rfl rfl (by decide +kernel) ⟨Nat.le_of_ble_eq_true rfl, Nat.le_of_ble_eq_true rfl⟩) (fb_m hK hPc hDc (va_recv hK hPc (ci := 1) (q0 := 0) rfl rfl)) rfl rfl hl.1 rfl (lv_room (Nat.le_of_ble_eq_true rfl)) dL_law_393 ⟨Nat.le_of_ble_eq_true rfl, Nat.le_of_ble_eq_true rfl⟩) hS (fun q _ h => hFc q h) hFc (fun r_1 u t H1 locs ht hvm hw_1 hB hz1 hk1 hS => ?_)
  obtain ⟨kd_1, lo_1, hi_1, vl_1, nd_1, so_1, fr_1, tg_1, gn_1, nr_1, mo_1, ma_1, fa_1, sv_1, sd_1, se_1, sh_1⟩ := u
  obtain ⟨hP1, hK1, hD1⟩ := hB
  rw [ht] at hP1
  obtain ⟨hP, hD⟩ := va_join (wr := (wM cI cJ cZ b kd vl lo hi nd so fr tg gm nr kp ah kx st mp ma fa op nx)) (w1 := (wX cI cJ cZ a kd_1 lo_1 hi_1 vl_1 nd_1 so_1 fr_1 tg_1 gn_1 nr_1 mo_1 ma_1 fa_1 sv_1 sd_1 se_1 sh_1)) hP hD [0, 1, 2, 3, 4, 5, 6, 7, 8, 9, 10, 11] [12, 13, 14, 15, 16, 17, 18, 19, 20, 21, 22, 23, 24, 25] rfl rfl (by decide) (by decide) hk1 hFc hP1 hD1
  generalize H1 = H at hP hS ⊢
  have hP : va_P (dC, dI) vwCl ((wM cI cJ cZ b kd vl lo hi nd so fr tg gm nr kp ah kx st mp ma fa op nx) ++ (wX cI cJ cZ a kd_1 lo_1 hi_1 vl_1 nd_1 so_1 fr_1 tg_1 gn_1 nr_1 mo_1 ma_1 fa_1 sv_1 sd_1 se_1 sh_1)) H := hP
  have hD : va_D (fun q : Nat => s.heap.size ≤ q) ((wM cI cJ cZ b kd vl lo hi nd so fr tg gm nr kp ah kx st mp ma fa op nx) ++ (wX cI cJ cZ a kd_1 lo_1 hi_1 vl_1 nd_1 so_1 fr_1 tg_1 gn_1 nr_1 mo_1 ma_1 fa_1 sv_1 sd_1 se_1 sh_1)) := hD
  refine lv_aload_n hx hb dL_law_396 rfl (lv_at hl 1 rfl) ?_
  refine lv_aload_n hx hb dL_law_397 rfl (lv_at hl 3 rfl) ?_
  refine lv_iload_n hx hb dL_law_398 rfl (lv_at hl 0 rfl) ?_
  refine lv_iconst (v := 1) hx hb dL_law_399 (by decide) ?_
  refine lv_iadd hx hb dL_law_400 ?_
  refine va_sld hx hb hX hbl hbA hS (by rw [show (1 : Int32) = nI 1 from rfl, nI_add]; exact vp_in_nI (by omega) (by omega)) dL_law_401 ?_
  refine lv_aload_n hx hb dL_law_402 rfl (lv_at hl 3 rfl) ?_
  refine lv_iload_n hx hb dL_law_403 rfl (lv_at hl 0 rfl) ?_
  refine lv_iconst (v := 2) hx hb dL_law_404 (by decide) ?_
  refine lv_iadd hx hb dL_law_405 ?_
  refine va_sld hx hb hX hbl hbA hS (by rw [show (2 : Int32) = nI 2 from rfl, nI_add]; exact vp_in_nI (by omega) (by omega)) dL_law_406 ?_
  have hPc := hP.sub (ws' := (wM cI cJ cZ b kd vl lo hi nd so fr tg gm nr kp ah kx st mp ma fa op nx)) [0, 1, 2, 3, 4, 5, 6, 7, 8, 9, 10, 11, 12, 13] rfl
  have hDc := hD.sub (ws' := (wM cI cJ cZ b kd vl lo hi nd so fr tg gm nr kp ah kx st mp ma fa op nx)) [0, 1, 2, 3, 4, 5, 6, 7, 8, 9, 10, 11, 12, 13] (by decide) rfl
  have hFc := va_free (wc := (wM cI cJ cZ b kd vl lo hi nd so fr tg gm nr kp ah kx st mp ma fa op nx)) hD hS hA [0, 1, 2, 3, 4, 5, 6, 7, 8, 9, 10, 11, 12, 13] rfl
  refine va_calli (va_runV (As := [.int (xs ((nI i) + (1 : Int32)).toNatClampNeg), .int (xs ((nI i) + (2 : Int32)).toNatClampNeg)]) (rest := [.int r_1]) ⟨hx, hb, hml, hown, hts⟩ (c_X3_order l dC dI cI cJ cZ b kd vl lo hi nd so fr tg gm nr kp ah kx st mp ma fa op nx (xs ((nI i) + (1 : Int32)).toNatClampNeg) (xs ((nI i) + (2 : Int32)).toNatClampNeg) hRS.1 H.size) (cwV 2 hts gL_law_X3_order rfl rfl rfl (by decide +kernel) ⟨Nat.le_of_ble_eq_true rfl, Nat.le_of_ble_eq_true rfl⟩) (fb_m hK hPc hDc (va_recv hK hPc (ci := 2) (q0 := 0) rfl rfl)) rfl rfl hl.1 rfl (lv_room (Nat.le_of_ble_eq_true rfl)) dL_law_407 ⟨Nat.le_of_ble_eq_true rfl, Nat.le_of_ble_eq_true rfl⟩) hS (fun q _ h => hFc q h) hFc (fun r_2 u t H1 locs ht hvm hw_2 hB hz1 hk1 hS => ?_)
  obtain ⟨kd_2, vl_2, lo_2, hi_2, nd_2, so_2, fr_2, tg_2, gm_2, nr_2, kp_2, ah_2, kx_2, st_2, mp_2, ma_2, fa_2, op_2, nx_2⟩ := u
  obtain ⟨hP1, hK1, hD1⟩ := hB
  rw [ht] at hP1
  obtain ⟨hP, hD⟩ := va_join (wr := (wX cI cJ cZ a kd_1 lo_1 hi_1 vl_1 nd_1 so_1 fr_1 tg_1 gn_1 nr_1 mo_1 ma_1 fa_1 sv_1 sd_1 se_1 sh_1)) (w1 := (wM cI cJ cZ b kd_2 vl_2 lo_2 hi_2 nd_2 so_2 fr_2 tg_2 gm_2 nr_2 kp_2 ah_2 kx_2 st_2 mp_2 ma_2 fa_2 op_2 nx_2)) hP hD [0, 1, 2, 3, 4, 5, 6, 7, 8, 9, 10, 11, 12, 13] [14, 15, 16, 17, 18, 19, 20, 21, 22, 23, 24, 25] rfl rfl (by decide) (by decide) hk1 hFc hP1 hD1
  generalize H1 = H at hP hS ⊢
  have hP : va_P (dC, dI) vwCl ((wX cI cJ cZ a kd_1 lo_1 hi_1 vl_1 nd_1 so_1 fr_1 tg_1 gn_1 nr_1 mo_1 ma_1 fa_1 sv_1 sd_1 se_1 sh_1) ++ (wM cI cJ cZ b kd_2 vl_2 lo_2 hi_2 nd_2 so_2 fr_2 tg_2 gm_2 nr_2 kp_2 ah_2 kx_2 st_2 mp_2 ma_2 fa_2 op_2 nx_2)) H := hP
  have hD : va_D (fun q : Nat => s.heap.size ≤ q) ((wX cI cJ cZ a kd_1 lo_1 hi_1 vl_1 nd_1 so_1 fr_1 tg_1 gn_1 nr_1 mo_1 ma_1 fa_1 sv_1 sd_1 se_1 sh_1) ++ (wM cI cJ cZ b kd_2 vl_2 lo_2 hi_2 nd_2 so_2 fr_2 tg_2 gm_2 nr_2 kp_2 ah_2 kx_2 st_2 mp_2 ma_2 fa_2 op_2 nx_2)) := hD
  have hpo : Post (r_1, kd_1, lo_1, hi_1, vl_1, nd_1, so_1, fr_1, tg_1, gn_1, nr_1, mo_1, ma_1, fa_1, sv_1, sd_1, se_1, sh_1) (r_2, kd_2, vl_2, lo_2, hi_2, nd_2, so_2, fr_2, tg_2, gm_2, nr_2, kp_2, ah_2, kx_2, st_2, mp_2, ma_2, fa_2, op_2, nx_2) := by rw [hw_1, hw_2]; exact op_order hRS hRK
  obtain ⟨rfl, rfl, rfl, rfl, rfl, rfl, rfl, rfl, rfl, rfl, rfl, rfl, hRS, hRK⟩ := hpo
  refine lv_icmp_eq (tgt := 472) hx hb dL_law_410 (by decide) (fun c_1 => ?_) (fun c_1 => ?_)
  · skip
    refine lv_iinc (v := ((nI i) + 6)) (lv' := [(3, .int ((nI i) + 6)), (2, .ref (b 0)), (1, .ref (a 0)), (0, .ref sb)]) hx hb dL_law_472 hl (k := 0) rfl rfl (by decide) rfl (fun ls hl => ?_)
    refine lv_goto (tgt := 18) hx hb dL_law_475 (by decide) ?_
    exact hnext _ kd_1 lo_1 hi_1 vl_1 nd_1 so_1 fr_1 tg_1 gn_1 nr_1 mo_1 ma_1 fa_1 sv_1 sd_1 se_1 sh_1 gm_2 kp_2 ah_2 kx_2 st_2 mp_2 op_2 nx_2 H locs ls (show nI i + 6 = nI (i + 6) from nI_add i 6) hRS hRK hP hD hS (lv_sub hl [0, 1, 2, 3] rfl)
  · skip
    exact absurd rfl c_1
set_option maxHeartbeats 4000000 in
set_option maxRecDepth 100000 in
theorem law_look {p : Program} {l : Launch} {e : Env} {s : State} {m : MethodId} {below : List Frame} {meth : Method} {c : Code} {dC : Nat → ClassId} {dI : Nat → Nat → Nat} {cI cJ cZ : ClassId} {sb L : Nat} {xs : Nat → Int32} {a b : Nat → Nat} (kd : Nat → Int32) (lo : Nat → Int64) (hi : Nat → Int64) (vl : Nat → Int64) (nd : Int32) (so : Nat → Int32) (fr : Nat → Int32) (tg : Nat → Int32) (gn : Nat → Int32) (nr : Int32) (mo : Int32) (ma : Int32) (fa : Int32) (sv : Nat → Int64) (sd : Nat → Int32) (se : Int32) (sh : Int32) (gm : Nat → Int32) (kp : Nat → Int64) (ah : Nat → Int64) (kx : Nat → Int32) (st : Int32) (mp : Int32) (op : Nat → Int32) (nx : Nat → Int32) (i : Nat) (H : Heap) (locs : List Loc) (ls : Array Slot) (hL : L ≤ 3072) (hlt : i + 6 ≤ L) (C0 : lw_At p s m meth c sb L xs) (hK : va_K (dC, dI) vwCl (tA cI cJ cZ) s) (hRS : RelS kd lo hi vl nd so fr tg nr) (hRK : RelK kd nd sv sd se sh kp kx st) (hP : va_P (dC, dI) vwCl ((wX cI cJ cZ a kd lo hi vl nd so fr tg gn nr mo ma fa sv sd se sh) ++ (wM cI cJ cZ b kd vl lo hi nd so fr tg gm nr kp ah kx st mp ma fa op nx)) H) (hD : va_D (fun q : Nat => s.heap.size ≤ q) ((wX cI cJ cZ a kd lo hi vl nd so fr tg gn nr mo ma fa sv sd se sh) ++ (wM cI cJ cZ b kd vl lo hi nd so fr tg gm nr kp ah kx st mp ma fa op nx))) (hS : va_S (fun q : Nat => s.heap.size ≤ q) s.heap H locs) (hl : lv_has ls 4 [(3, .int (nI i)), (2, .ref (b 0)), (1, .ref (a 0)), (0, .ref sb)]) (hnext : ∀ (x3 : Int32) (kd : Nat → Int32) (lo : Nat → Int64) (hi : Nat → Int64) (vl : Nat → Int64) (nd : Int32) (so : Nat → Int32) (fr : Nat → Int32) (tg : Nat → Int32) (gn : Nat → Int32) (nr : Int32) (mo : Int32) (ma : Int32) (fa : Int32) (sv : Nat → Int64) (sd : Nat → Int32) (se : Int32) (sh : Int32) (gm : Nat → Int32) (kp : Nat → Int64) (ah : Nat → Int64) (kx : Nat → Int32) (st : Int32) (mp : Int32) (op : Nat → Int32) (nx : Nat → Int32) (H : Heap) (locs : List Loc) (ls : Array Slot), x3 = nI (i + 6) → RelS kd lo hi vl nd so fr tg nr → RelK kd nd sv sd se sh kp kx st → va_P (dC, dI) vwCl ((wX cI cJ cZ a kd lo hi vl nd so fr tg gn nr mo ma fa sv sd se sh) ++ (wM cI cJ cZ b kd vl lo hi nd so fr tg gm nr kp ah kx st mp ma fa op nx)) H → va_D (fun q : Nat => s.heap.size ≤ q) ((wX cI cJ cZ a kd lo hi vl nd so fr tg gn nr mo ma fa sv sd se sh) ++ (wM cI cJ cZ b kd vl lo hi nd so fr tg gm nr kp ah kx st mp ma fa op nx)) → va_S (fun q : Nat => s.heap.size ≤ q) s.heap H locs → lv_has ls 4 [(3, .int x3), (2, .ref (b 0)), (1, .ref (a 0)), (0, .ref sb)] → W p l e room_1 s m #[Value.ref sb] below meth c H locs 26 629 (lw_Z below #[Value.ref sb] s) (F0 m 18 ls [])) : W p l e room_1 s m #[Value.ref sb] below meth c H locs 26 629 (lw_Z below #[Value.ref sb] s) (F0 m 415 ls []) := by
  obtain ⟨hx, hb, hr, hml, hown, hts, hX, hbl, hlocks, hgv⟩ := C0
  have hts : ∀ w ∈ wsL_law, w.before #[Value.ref sb] s = true := fun w h => hts w (wsL_law_in w h)
  have hown : s.vm.findClass RL = some m.cls := hown
  have hb : c.code = cL_law := hb
  have hA : ∀ q : Nat, s.heap.size ≤ q → (fun q : Nat => s.heap.size ≤ q) q := fun _ h => h
  have hbA : ¬ (fun q : Nat => s.heap.size ≤ q) sb := Nat.not_le.mpr hbl
  refine lv_aload_n hx hb dL_law_415 rfl (lv_at hl 2 rfl) ?_
  refine lv_aload_n hx hb dL_law_416 rfl (lv_at hl 3 rfl) ?_
  refine lv_iload_n hx hb dL_law_417 rfl (lv_at hl 0 rfl) ?_
  refine lv_iconst (v := 1) hx hb dL_law_418 (by decide) ?_
  refine lv_iadd hx hb dL_law_419 ?_
  refine va_sld hx hb hX hbl hbA hS (by rw [show (1 : Int32) = nI 1 from rfl, nI_add]; exact vp_in_nI (by omega) (by omega)) dL_law_420 ?_
  refine lv_aload_n hx hb dL_law_421 rfl (lv_at hl 3 rfl) ?_
  refine lv_iload_n hx hb dL_law_422 rfl (lv_at hl 0 rfl) ?_
  refine lv_iconst (v := 2) hx hb dL_law_423 (by decide) ?_
  refine lv_iadd hx hb dL_law_424 ?_
  refine va_sld hx hb hX hbl hbA hS (by rw [show (2 : Int32) = nI 2 from rfl, nI_add]; exact vp_in_nI (by omega) (by omega)) dL_law_425 ?_
  have hPc := hP.sub (ws' := (wX cI cJ cZ a kd lo hi vl nd so fr tg gn nr mo ma fa sv sd se sh)) [0, 1, 2, 3, 4, 5, 6, 7, 8, 9, 10, 11] rfl
  refine cs_l (W.runV (As := [.int (xs ((nI i) + (1 : Int32)).toNatClampNeg), .int (xs ((nI i) + (2 : Int32)).toNatClampNeg)]) (rest := []) ⟨hx, hb, hml, hown, hts⟩ (c_X2_look l dC dI cI cJ cZ a kd lo hi vl nd so fr tg gn nr mo ma fa sv sd se sh (xs ((nI i) + (1 : Int32)).toNatClampNeg) (xs ((nI i) + (2 : Int32)).toNatClampNeg) hRS.1.2) (cwV 2 hts gL_law_X2_look rfl rfl rfl (by decide +kernel) ⟨Nat.le_of_ble_eq_true rfl, Nat.le_of_ble_eq_true rfl⟩) (fb_v hK hPc (va_recv hK hPc (ci := 1) (q0 := 0) rfl rfl)) rfl rfl hl.1 rfl (lv_room (Nat.le_of_ble_eq_true rfl)) dL_law_426 ⟨Nat.le_of_ble_eq_true rfl, Nat.le_of_ble_eq_true rfl⟩) ?_
  refine lv_aload_n hx hb dL_law_429 rfl (lv_at hl 1 rfl) ?_
  refine lv_aload_n hx hb dL_law_430 rfl (lv_at hl 3 rfl) ?_
  refine lv_iload_n hx hb dL_law_431 rfl (lv_at hl 0 rfl) ?_
  refine lv_iconst (v := 1) hx hb dL_law_432 (by decide) ?_
  refine lv_iadd hx hb dL_law_433 ?_
  refine va_sld hx hb hX hbl hbA hS (by rw [show (1 : Int32) = nI 1 from rfl, nI_add]; exact vp_in_nI (by omega) (by omega)) dL_law_434 ?_
  refine lv_aload_n hx hb dL_law_435 rfl (lv_at hl 3 rfl) ?_
  refine lv_iload_n hx hb dL_law_436 rfl (lv_at hl 0 rfl) ?_
  refine lv_iconst (v := 2) hx hb dL_law_437 (by decide) ?_
  refine lv_iadd hx hb dL_law_438 ?_
  refine va_sld hx hb hX hbl hbA hS (by rw [show (2 : Int32) = nI 2 from rfl, nI_add]; exact vp_in_nI (by omega) (by omega)) dL_law_439 ?_
  have hPc := hP.sub (ws' := (wM cI cJ cZ b kd vl lo hi nd so fr tg gm nr kp ah kx st mp ma fa op nx)) [12, 13, 14, 15, 16, 17, 18, 19, 20, 21, 22, 23, 24, 25] rfl
  refine cs_l (W.runV (As := [.int (xs ((nI i) + (1 : Int32)).toNatClampNeg), .int (xs ((nI i) + (2 : Int32)).toNatClampNeg)]) (rest := [.long (x_look kd lo hi vl nd (xs ((nI i) + (1 : Int32)).toNatClampNeg) (xs ((nI i) + (2 : Int32)).toNatClampNeg))]) ⟨hx, hb, hml, hown, hts⟩ (c_X3_look l dC dI cI cJ cZ b kd vl lo hi nd so fr tg gm nr kp ah kx st mp ma fa op nx (xs ((nI i) + (1 : Int32)).toNatClampNeg) (xs ((nI i) + (2 : Int32)).toNatClampNeg) hRS.1.2) (cwV 2 hts gL_law_X3_look rfl rfl rfl (by decide +kernel) ⟨Nat.le_of_ble_eq_true rfl, Nat.le_of_ble_eq_true rfl⟩) (fb_v hK hPc (va_recv hK hPc (ci := 2) (q0 := 0) rfl rfl)) rfl rfl hl.1 rfl (lv_room (Nat.le_of_ble_eq_true rfl)) dL_law_440 ⟨Nat.le_of_ble_eq_true rfl, Nat.le_of_ble_eq_true rfl⟩) ?_
  refine W.lcmp hx hb dL_law_443 ?_
  refine lv_if_eq (tgt := 472) hx hb dL_law_444 (by decide) (fun c_1 => ?_) (fun c_1 => ?_)
  · skip
    have c_1 : (x_look kd lo hi vl nd (xs ((nI i) + (1 : Int32)).toNatClampNeg) (xs ((nI i) + (2 : Int32)).toNatClampNeg)) = (m_look kd vl lo hi nd (xs ((nI i) + (1 : Int32)).toNatClampNeg) (xs ((nI i) + (2 : Int32)).toNatClampNeg)) := (lg_cmp_eq _ _).mp c_1
    refine lv_iinc (v := ((nI i) + 6)) (lv' := [(3, .int ((nI i) + 6)), (2, .ref (b 0)), (1, .ref (a 0)), (0, .ref sb)]) hx hb dL_law_472 hl (k := 0) rfl rfl (by decide) rfl (fun ls hl => ?_)
    refine lv_goto (tgt := 18) hx hb dL_law_475 (by decide) ?_
    exact hnext _ kd lo hi vl nd so fr tg gn nr mo ma fa sv sd se sh gm kp ah kx st mp op nx H locs ls (show nI i + 6 = nI (i + 6) from nI_add i 6) hRS hRK hP hD hS (lv_sub hl [0, 1, 2, 3] rfl)
  · skip
    have c_1 : ¬ ((x_look kd lo hi vl nd (xs ((nI i) + (1 : Int32)).toNatClampNeg) (xs ((nI i) + (2 : Int32)).toNatClampNeg)) = (m_look kd vl lo hi nd (xs ((nI i) + (1 : Int32)).toNatClampNeg) (xs ((nI i) + (2 : Int32)).toNatClampNeg))) := fun h => c_1 ((lg_cmp_eq _ _).mpr h)
    exact absurd (op_look _ _ _ _ _ _ _) c_1
set_option maxHeartbeats 4000000 in
set_option maxRecDepth 100000 in
theorem law_count {p : Program} {l : Launch} {e : Env} {s : State} {m : MethodId} {below : List Frame} {meth : Method} {c : Code} {dC : Nat → ClassId} {dI : Nat → Nat → Nat} {cI cJ cZ : ClassId} {sb L : Nat} {xs : Nat → Int32} {a b : Nat → Nat} (kd : Nat → Int32) (lo : Nat → Int64) (hi : Nat → Int64) (vl : Nat → Int64) (nd : Int32) (so : Nat → Int32) (fr : Nat → Int32) (tg : Nat → Int32) (gn : Nat → Int32) (nr : Int32) (mo : Int32) (ma : Int32) (fa : Int32) (sv : Nat → Int64) (sd : Nat → Int32) (se : Int32) (sh : Int32) (gm : Nat → Int32) (kp : Nat → Int64) (ah : Nat → Int64) (kx : Nat → Int32) (st : Int32) (mp : Int32) (op : Nat → Int32) (nx : Nat → Int32) (i : Nat) (H : Heap) (locs : List Loc) (ls : Array Slot) (hL : L ≤ 3072) (hlt : i + 6 ≤ L) (C0 : lw_At p s m meth c sb L xs) (hK : va_K (dC, dI) vwCl (tA cI cJ cZ) s) (hRS : RelS kd lo hi vl nd so fr tg nr) (hRK : RelK kd nd sv sd se sh kp kx st) (hP : va_P (dC, dI) vwCl ((wX cI cJ cZ a kd lo hi vl nd so fr tg gn nr mo ma fa sv sd se sh) ++ (wM cI cJ cZ b kd vl lo hi nd so fr tg gm nr kp ah kx st mp ma fa op nx)) H) (hD : va_D (fun q : Nat => s.heap.size ≤ q) ((wX cI cJ cZ a kd lo hi vl nd so fr tg gn nr mo ma fa sv sd se sh) ++ (wM cI cJ cZ b kd vl lo hi nd so fr tg gm nr kp ah kx st mp ma fa op nx))) (hS : va_S (fun q : Nat => s.heap.size ≤ q) s.heap H locs) (hl : lv_has ls 4 [(3, .int (nI i)), (2, .ref (b 0)), (1, .ref (a 0)), (0, .ref sb)]) (hnext : ∀ (x3 : Int32) (kd : Nat → Int32) (lo : Nat → Int64) (hi : Nat → Int64) (vl : Nat → Int64) (nd : Int32) (so : Nat → Int32) (fr : Nat → Int32) (tg : Nat → Int32) (gn : Nat → Int32) (nr : Int32) (mo : Int32) (ma : Int32) (fa : Int32) (sv : Nat → Int64) (sd : Nat → Int32) (se : Int32) (sh : Int32) (gm : Nat → Int32) (kp : Nat → Int64) (ah : Nat → Int64) (kx : Nat → Int32) (st : Int32) (mp : Int32) (op : Nat → Int32) (nx : Nat → Int32) (H : Heap) (locs : List Loc) (ls : Array Slot), x3 = nI (i + 6) → RelS kd lo hi vl nd so fr tg nr → RelK kd nd sv sd se sh kp kx st → va_P (dC, dI) vwCl ((wX cI cJ cZ a kd lo hi vl nd so fr tg gn nr mo ma fa sv sd se sh) ++ (wM cI cJ cZ b kd vl lo hi nd so fr tg gm nr kp ah kx st mp ma fa op nx)) H → va_D (fun q : Nat => s.heap.size ≤ q) ((wX cI cJ cZ a kd lo hi vl nd so fr tg gn nr mo ma fa sv sd se sh) ++ (wM cI cJ cZ b kd vl lo hi nd so fr tg gm nr kp ah kx st mp ma fa op nx)) → va_S (fun q : Nat => s.heap.size ≤ q) s.heap H locs → lv_has ls 4 [(3, .int x3), (2, .ref (b 0)), (1, .ref (a 0)), (0, .ref sb)] → W p l e room_1 s m #[Value.ref sb] below meth c H locs 26 629 (lw_Z below #[Value.ref sb] s) (F0 m 18 ls [])) : W p l e room_1 s m #[Value.ref sb] below meth c H locs 26 629 (lw_Z below #[Value.ref sb] s) (F0 m 449 ls []) := by
  obtain ⟨hx, hb, hr, hml, hown, hts, hX, hbl, hlocks, hgv⟩ := C0
  have hts : ∀ w ∈ wsL_law, w.before #[Value.ref sb] s = true := fun w h => hts w (wsL_law_in w h)
  have hown : s.vm.findClass RL = some m.cls := hown
  have hb : c.code = cL_law := hb
  have hA : ∀ q : Nat, s.heap.size ≤ q → (fun q : Nat => s.heap.size ≤ q) q := fun _ h => h
  have hbA : ¬ (fun q : Nat => s.heap.size ≤ q) sb := Nat.not_le.mpr hbl
  refine lv_aload_n hx hb dL_law_449 rfl (lv_at hl 2 rfl) ?_
  refine lv_aload_n hx hb dL_law_450 rfl (lv_at hl 3 rfl) ?_
  refine lv_iload_n hx hb dL_law_451 rfl (lv_at hl 0 rfl) ?_
  refine lv_iconst (v := 1) hx hb dL_law_452 (by decide) ?_
  refine lv_iadd hx hb dL_law_453 ?_
  refine va_sld hx hb hX hbl hbA hS (by rw [show (1 : Int32) = nI 1 from rfl, nI_add]; exact vp_in_nI (by omega) (by omega)) dL_law_454 ?_
  have hPc := hP.sub (ws' := (wX cI cJ cZ a kd lo hi vl nd so fr tg gn nr mo ma fa sv sd se sh)) [0, 1, 2, 3, 4, 5, 6, 7, 8, 9, 10, 11] rfl
  refine cs_i (W.runV (As := [.int (xs ((nI i) + (1 : Int32)).toNatClampNeg)]) (rest := []) ⟨hx, hb, hml, hown, hts⟩ (c_X2_count l dC dI cI cJ cZ a kd lo hi vl nd so fr tg gn nr mo ma fa sv sd se sh (xs ((nI i) + (1 : Int32)).toNatClampNeg) ) (cwV 1 hts gL_law_X2_count rfl rfl rfl (by decide +kernel) ⟨Nat.le_of_ble_eq_true rfl, Nat.le_of_ble_eq_true rfl⟩) (fb_v hK hPc (va_recv hK hPc (ci := 1) (q0 := 0) rfl rfl)) rfl rfl hl.1 rfl (lv_room (Nat.le_of_ble_eq_true rfl)) dL_law_455 ⟨Nat.le_of_ble_eq_true rfl, Nat.le_of_ble_eq_true rfl⟩) ?_
  refine lv_aload_n hx hb dL_law_458 rfl (lv_at hl 1 rfl) ?_
  refine lv_aload_n hx hb dL_law_459 rfl (lv_at hl 3 rfl) ?_
  refine lv_iload_n hx hb dL_law_460 rfl (lv_at hl 0 rfl) ?_
  refine lv_iconst (v := 1) hx hb dL_law_461 (by decide) ?_
  refine lv_iadd hx hb dL_law_462 ?_
  refine va_sld hx hb hX hbl hbA hS (by rw [show (1 : Int32) = nI 1 from rfl, nI_add]; exact vp_in_nI (by omega) (by omega)) dL_law_463 ?_
  have hPc := hP.sub (ws' := (wM cI cJ cZ b kd vl lo hi nd so fr tg gm nr kp ah kx st mp ma fa op nx)) [12, 13, 14, 15, 16, 17, 18, 19, 20, 21, 22, 23, 24, 25] rfl
  refine cs_i (W.runV (As := [.int (xs ((nI i) + (1 : Int32)).toNatClampNeg)]) (rest := [.int (x_count nd nr ma fa sh (xs ((nI i) + (1 : Int32)).toNatClampNeg))]) ⟨hx, hb, hml, hown, hts⟩ (c_X3_count l dC dI cI cJ cZ b kd vl lo hi nd so fr tg gm nr kp ah kx st mp ma fa op nx (xs ((nI i) + (1 : Int32)).toNatClampNeg) ) (cwV 1 hts gL_law_X3_count rfl rfl rfl (by decide +kernel) ⟨Nat.le_of_ble_eq_true rfl, Nat.le_of_ble_eq_true rfl⟩) (fb_v hK hPc (va_recv hK hPc (ci := 2) (q0 := 0) rfl rfl)) rfl rfl hl.1 rfl (lv_room (Nat.le_of_ble_eq_true rfl)) dL_law_464 ⟨Nat.le_of_ble_eq_true rfl, Nat.le_of_ble_eq_true rfl⟩) ?_
  refine lv_icmp_eq (tgt := 472) hx hb dL_law_467 (by decide) (fun c_1 => ?_) (fun c_1 => ?_)
  · skip
    refine lv_iinc (v := ((nI i) + 6)) (lv' := [(3, .int ((nI i) + 6)), (2, .ref (b 0)), (1, .ref (a 0)), (0, .ref sb)]) hx hb dL_law_472 hl (k := 0) rfl rfl (by decide) rfl (fun ls hl => ?_)
    refine lv_goto (tgt := 18) hx hb dL_law_475 (by decide) ?_
    exact hnext _ kd lo hi vl nd so fr tg gn nr mo ma fa sv sd se sh gm kp ah kx st mp op nx H locs ls (show nI i + 6 = nI (i + 6) from nI_add i 6) hRS hRK hP hD hS (lv_sub hl [0, 1, 2, 3] rfl)
  · skip
    exact absurd (by rw [hRK.2.1]; exact op_count _ _ _ _ _ _) c_1
