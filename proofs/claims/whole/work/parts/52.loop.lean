theorem law_lt {L i : Nat} (hL : L ≤ 3072) (hi : i ≤ L) (h : ¬ (Int32.ofNat L - (6 : Int32)) < nI i) : i + 6 ≤ L := by
  have e : (nI L - nI 6).toInt = (L : Int) - (6 : Nat) := pk_sub_toInt (by omega) (by decide)
  have h2 : nI i ≤ nI L - nI 6 := Int32.not_lt.mp h
  rw [Int32.le_iff_toInt_le, nI_toInt (by omega), e] at h2
  omega
set_option maxHeartbeats 4000000 in
set_option maxRecDepth 100000 in
theorem law_loop {p : Program} {l : Launch} {e : Env} {s : State} {m : MethodId} {below : List Frame} {meth : Method} {c : Code} {dC : Nat → ClassId} {dI : Nat → Nat → Nat} {cI cJ cZ : ClassId} {sb L : Nat} {xs : Nat → Int32} {a b : Nat → Nat} (hL : L ≤ 3072) (C0 : lw_At p s m meth c sb L xs) (hK : va_K (dC, dI) vwCl (tA cI cJ cZ) s) :
    ∀ (n i : Nat) (x3 : Int32) (kd : Nat → Int32) (lo : Nat → Int64) (hi : Nat → Int64) (vl : Nat → Int64) (nd : Int32) (so : Nat → Int32) (fr : Nat → Int32) (tg : Nat → Int32) (gn : Nat → Int32) (nr : Int32) (mo : Int32) (ma : Int32) (fa : Int32) (sv : Nat → Int64) (sd : Nat → Int32) (se : Int32) (sh : Int32) (gm : Nat → Int32) (kp : Nat → Int64) (ah : Nat → Int64) (kx : Nat → Int32) (st : Int32) (mp : Int32) (op : Nat → Int32) (nx : Nat → Int32) (H : Heap) (locs : List Loc) (ls : Array Slot), L ≤ i + 6 * n → i ≤ L → x3 = nI i → RelS kd lo hi vl nd so fr tg nr → RelK kd nd sv sd se sh kp kx st → va_P (dC, dI) vwCl ((wX cI cJ cZ a kd lo hi vl nd so fr tg gn nr mo ma fa sv sd se sh) ++ (wM cI cJ cZ b kd vl lo hi nd so fr tg gm nr kp ah kx st mp ma fa op nx)) H → va_D (fun q : Nat => s.heap.size ≤ q) ((wX cI cJ cZ a kd lo hi vl nd so fr tg gn nr mo ma fa sv sd se sh) ++ (wM cI cJ cZ b kd vl lo hi nd so fr tg gm nr kp ah kx st mp ma fa op nx)) → va_S (fun q : Nat => s.heap.size ≤ q) s.heap H locs → lv_has ls 4 [(3, .int x3), (2, .ref (b 0)), (1, .ref (a 0)), (0, .ref sb)] → W p l e room_1 s m #[Value.ref sb] below meth c H locs 26 629 (lw_Z below #[Value.ref sb] s) (F0 m 18 ls []) := by
  obtain ⟨hx, hb, hr, hml, hown, hts, hX, hbl, hlocks, hgv⟩ := id C0
  have hb : c.code = cL_law := hb
  have hA : ∀ q : Nat, s.heap.size ≤ q → (fun q : Nat => s.heap.size ≤ q) q := fun _ h => h
  have hbA : ¬ (fun q : Nat => s.heap.size ≤ q) sb := Nat.not_le.mpr hbl
  intro n
  induction n with
  | zero =>
    intro i x3 kd lo hi vl nd so fr tg gn nr mo ma fa sv sd se sh gm kp ah kx st mp op nx H locs ls hin hiL ex hRS hRK hP hD hS hl
    subst ex
    refine lv_iload_n hx hb dL_law_18 rfl (lv_at hl 0 rfl) ?_
    refine lv_aload_n hx hb dL_law_19 rfl (lv_at hl 3 rfl) ?_
    refine va_slen hx hb hX hbl hbA hS dL_law_20 ?_
    refine lv_bipush (v := 6) hx hb dL_law_21 (by decide) ?_
    refine lv_isub hx hb dL_law_23 ?_
    refine lv_icmp_gt (tgt := 478) hx hb dL_law_24 (by decide) (fun c_1 => ?_) (fun c_1 => ?_)
    · skip
      refine lv_iconst (v := 1) hx hb dL_law_478 (by decide) ?_
      refine va_forget (fun q hq => hS.2.2 q hq) ?_
      refine W.widen (k := 600000) (n := 7302249) (Nat.le_of_ble_eq_true rfl) (Nat.le_of_ble_eq_true rfl) ?_
      exact lw_ret hx hb hr hlocks dL_law_479
    · skip
      exact absurd (law_lt hL hiL c_1) (by omega)
  | succ n ih =>
    intro i x3 kd lo hi vl nd so fr tg gn nr mo ma fa sv sd se sh gm kp ah kx st mp op nx H locs ls hin hiL ex hRS hRK hP hD hS hl
    subst ex
    refine lv_iload_n hx hb dL_law_18 rfl (lv_at hl 0 rfl) ?_
    refine lv_aload_n hx hb dL_law_19 rfl (lv_at hl 3 rfl) ?_
    refine va_slen hx hb hX hbl hbA hS dL_law_20 ?_
    refine lv_bipush (v := 6) hx hb dL_law_21 (by decide) ?_
    refine lv_isub hx hb dL_law_23 ?_
    refine lv_icmp_gt (tgt := 478) hx hb dL_law_24 (by decide) (fun c_1 => ?_) (fun c_1 => ?_)
    · skip
      refine lv_iconst (v := 1) hx hb dL_law_478 (by decide) ?_
      refine va_forget (fun q hq => hS.2.2 q hq) ?_
      refine W.widen (k := 600000) (n := 7302249) (Nat.le_of_ble_eq_true rfl) (Nat.le_of_ble_eq_true rfl) ?_
      exact lw_ret hx hb hr hlocks dL_law_479
    · skip
      have hlt : i + 6 ≤ L := law_lt hL hiL c_1
      refine lv_aload_n hx hb dL_law_27 rfl (lv_at hl 3 rfl) ?_
      refine lv_iload_n hx hb dL_law_28 rfl (lv_at hl 0 rfl) ?_
      refine va_sld hx hb hX hbl hbA hS (vp_in_nI (by omega) (by omega)) dL_law_29 ?_
      refine lv_bipush (v := 15) hx hb dL_law_30 (by decide) ?_
      refine lv_iand hx hb dL_law_32 ?_
      by_cases c_2 : ((xs (nI i).toNatClampNeg) &&& (15 : Int32)) = 0
      · skip
        refine lv_tableIn (off := 51) (tgt := 84) hx hb dL_law_33 (by rw [c_2]; decide) (by rw [c_2]; decide) (by rw [c_2]; rfl) (by decide) ?_
        exact law_dial kd lo hi vl nd so fr tg gn nr mo ma fa sv sd se sh gm kp ah kx st mp op nx i H locs ls hL hlt C0 hK hRS hRK hP hD hS (lv_sub hl [0, 1, 2, 3] rfl) (fun x3 kd lo hi vl nd so fr tg gn nr mo ma fa sv sd se sh gm kp ah kx st mp op nx H locs ls ex hRS hRK hP hD hS hl => ih (i + 6) x3 kd lo hi vl nd so fr tg gn nr mo ma fa sv sd se sh gm kp ah kx st mp op nx H locs ls (by omega) (by omega) ex hRS hRK hP hD hS hl)
      · skip
        by_cases c_3 : ((xs (nI i).toNatClampNeg) &&& (15 : Int32)) = 1
        · skip
          refine lv_tableIn (off := 154) (tgt := 187) hx hb dL_law_33 (by rw [c_3]; decide) (by rw [c_3]; decide) (by rw [c_3]; rfl) (by decide) ?_
          exact law_rod kd lo hi vl nd so fr tg gn nr mo ma fa sv sd se sh gm kp ah kx st mp op nx i H locs ls hL hlt C0 hK hRS hRK hP hD hS (lv_sub hl [0, 1, 2, 3] rfl) (fun x3 kd lo hi vl nd so fr tg gn nr mo ma fa sv sd se sh gm kp ah kx st mp op nx H locs ls ex hRS hRK hP hD hS hl => ih (i + 6) x3 kd lo hi vl nd so fr tg gn nr mo ma fa sv sd se sh gm kp ah kx st mp op nx H locs ls (by omega) (by omega) ex hRS hRK hP hD hS hl)
        · skip
          by_cases c_4 : ((xs (nI i).toNatClampNeg) &&& (15 : Int32)) = 2
          · skip
            refine lv_tableIn (off := 197) (tgt := 230) hx hb dL_law_33 (by rw [c_4]; decide) (by rw [c_4]; decide) (by rw [c_4]; rfl) (by decide) ?_
            exact law_set kd lo hi vl nd so fr tg gn nr mo ma fa sv sd se sh gm kp ah kx st mp op nx i H locs ls hL hlt C0 hK hRS hRK hP hD hS (lv_sub hl [0, 1, 2, 3] rfl) (fun x3 kd lo hi vl nd so fr tg gn nr mo ma fa sv sd se sh gm kp ah kx st mp op nx H locs ls ex hRS hRK hP hD hS hl => ih (i + 6) x3 kd lo hi vl nd so fr tg gn nr mo ma fa sv sd se sh gm kp ah kx st mp op nx H locs ls (by omega) (by omega) ex hRS hRK hP hD hS hl)
          · skip
            by_cases c_5 : ((xs (nI i).toNatClampNeg) &&& (15 : Int32)) = 3
            · skip
              refine lv_tableIn (off := 260) (tgt := 293) hx hb dL_law_33 (by rw [c_5]; decide) (by rw [c_5]; decide) (by rw [c_5]; rfl) (by decide) ?_
              exact law_turn kd lo hi vl nd so fr tg gn nr mo ma fa sv sd se sh gm kp ah kx st mp op nx i H locs ls hL hlt C0 hK hRS hRK hP hD hS (lv_sub hl [0, 1, 2, 3] rfl) (fun x3 kd lo hi vl nd so fr tg gn nr mo ma fa sv sd se sh gm kp ah kx st mp op nx H locs ls ex hRS hRK hP hD hS hl => ih (i + 6) x3 kd lo hi vl nd so fr tg gn nr mo ma fa sv sd se sh gm kp ah kx st mp op nx H locs ls (by omega) (by omega) ex hRS hRK hP hD hS hl)
            · skip
              by_cases c_6 : ((xs (nI i).toNatClampNeg) &&& (15 : Int32)) = 4
              · skip
                refine lv_tableIn (off := 293) (tgt := 326) hx hb dL_law_33 (by rw [c_6]; decide) (by rw [c_6]; decide) (by rw [c_6]; rfl) (by decide) ?_
                exact law_take kd lo hi vl nd so fr tg gn nr mo ma fa sv sd se sh gm kp ah kx st mp op nx i H locs ls hL hlt C0 hK hRS hRK hP hD hS (lv_sub hl [0, 1, 2, 3] rfl) (fun x3 kd lo hi vl nd so fr tg gn nr mo ma fa sv sd se sh gm kp ah kx st mp op nx H locs ls ex hRS hRK hP hD hS hl => ih (i + 6) x3 kd lo hi vl nd so fr tg gn nr mo ma fa sv sd se sh gm kp ah kx st mp op nx H locs ls (by omega) (by omega) ex hRS hRK hP hD hS hl)
              · skip
                by_cases c_7 : ((xs (nI i).toNatClampNeg) &&& (15 : Int32)) = 5
                · skip
                  refine lv_tableIn (off := 336) (tgt := 369) hx hb dL_law_33 (by rw [c_7]; decide) (by rw [c_7]; decide) (by rw [c_7]; rfl) (by decide) ?_
                  exact law_back kd lo hi vl nd so fr tg gn nr mo ma fa sv sd se sh gm kp ah kx st mp op nx i H locs ls hL hlt C0 hK hRS hRK hP hD hS (lv_sub hl [0, 1, 2, 3] rfl) (fun x3 kd lo hi vl nd so fr tg gn nr mo ma fa sv sd se sh gm kp ah kx st mp op nx H locs ls ex hRS hRK hP hD hS hl => ih (i + 6) x3 kd lo hi vl nd so fr tg gn nr mo ma fa sv sd se sh gm kp ah kx st mp op nx H locs ls (by omega) (by omega) ex hRS hRK hP hD hS hl)
                · skip
                  by_cases c_8 : ((xs (nI i).toNatClampNeg) &&& (15 : Int32)) = 6
                  · skip
                    refine lv_tableIn (off := 349) (tgt := 382) hx hb dL_law_33 (by rw [c_8]; decide) (by rw [c_8]; decide) (by rw [c_8]; rfl) (by decide) ?_
                    exact law_order kd lo hi vl nd so fr tg gn nr mo ma fa sv sd se sh gm kp ah kx st mp op nx i H locs ls hL hlt C0 hK hRS hRK hP hD hS (lv_sub hl [0, 1, 2, 3] rfl) (fun x3 kd lo hi vl nd so fr tg gn nr mo ma fa sv sd se sh gm kp ah kx st mp op nx H locs ls ex hRS hRK hP hD hS hl => ih (i + 6) x3 kd lo hi vl nd so fr tg gn nr mo ma fa sv sd se sh gm kp ah kx st mp op nx H locs ls (by omega) (by omega) ex hRS hRK hP hD hS hl)
                  · skip
                    by_cases c_9 : ((xs (nI i).toNatClampNeg) &&& (15 : Int32)) = 7
                    · skip
                      refine lv_tableIn (off := 382) (tgt := 415) hx hb dL_law_33 (by rw [c_9]; decide) (by rw [c_9]; decide) (by rw [c_9]; rfl) (by decide) ?_
                      exact law_look kd lo hi vl nd so fr tg gn nr mo ma fa sv sd se sh gm kp ah kx st mp op nx i H locs ls hL hlt C0 hK hRS hRK hP hD hS (lv_sub hl [0, 1, 2, 3] rfl) (fun x3 kd lo hi vl nd so fr tg gn nr mo ma fa sv sd se sh gm kp ah kx st mp op nx H locs ls ex hRS hRK hP hD hS hl => ih (i + 6) x3 kd lo hi vl nd so fr tg gn nr mo ma fa sv sd se sh gm kp ah kx st mp op nx H locs ls (by omega) (by omega) ex hRS hRK hP hD hS hl)
                    · skip
                      by_cases c_10 : ((xs (nI i).toNatClampNeg) &&& (15 : Int32)) = 8
                      · skip
                        refine lv_tableIn (off := 416) (tgt := 449) hx hb dL_law_33 (by rw [c_10]; decide) (by rw [c_10]; decide) (by rw [c_10]; rfl) (by decide) ?_
                        exact law_count kd lo hi vl nd so fr tg gn nr mo ma fa sv sd se sh gm kp ah kx st mp op nx i H locs ls hL hlt C0 hK hRS hRK hP hD hS (lv_sub hl [0, 1, 2, 3] rfl) (fun x3 kd lo hi vl nd so fr tg gn nr mo ma fa sv sd se sh gm kp ah kx st mp op nx H locs ls ex hRS hRK hP hD hS hl => ih (i + 6) x3 kd lo hi vl nd so fr tg gn nr mo ma fa sv sd se sh gm kp ah kx st mp op nx H locs ls (by omega) (by omega) ex hRS hRK hP hD hS hl)
                      · skip
                        refine lv_tableOut (tgt := 472) hx hb dL_law_33 (by have e0 := lv_neT c_2 (a := 0) (by decide); have e1 := lv_neT c_3 (a := 1) (by decide); have e2 := lv_neT c_4 (a := 2) (by decide); have e3 := lv_neT c_5 (a := 3) (by decide); have e4 := lv_neT c_6 (a := 4) (by decide); have e5 := lv_neT c_7 (a := 5) (by decide); have e6 := lv_neT c_8 (a := 6) (by decide); have e7 := lv_neT c_9 (a := 7) (by decide); have e8 := lv_neT c_10 (a := 8) (by decide); omega) (by decide) ?_
                        refine lv_iinc (v := ((nI i) + 6)) (lv' := [(3, .int ((nI i) + 6)), (2, .ref (b 0)), (1, .ref (a 0)), (0, .ref sb)]) hx hb dL_law_472 hl (k := 0) rfl rfl (by decide) rfl (fun ls hl => ?_)
                        refine lv_goto (tgt := 18) hx hb dL_law_475 (by decide) ?_
                        exact ih (i + 6) _ kd lo hi vl nd so fr tg gn nr mo ma fa sv sd se sh gm kp ah kx st mp op nx H locs ls (by omega) (by omega) (show nI i + 6 = nI (i + 6) from nI_add i 6) hRS hRK hP hD hS (lv_sub hl [0, 1, 2, 3] rfl)
