-- ===== end of PART A; then your names; then what follows =====
/-! THE CLAIM OUT OF ONE WALK OF THE LAW'S BODY. Your part is whole_start (and what it stands on); all else here is the same for every law, but numbers. -/
def R_law : String := "DetentCabinetLaw"
def lw_P (b : Addr) (xs : List Int32) (args : Array Value) (s : State) : Prop := args = #[.ref b] ∧ s.IntsAt b xs ∧ xs.length ≤ 3072 ∧ (Jvm.Cond.and given_1 narrow_1).before args s = true
def lw_Q (_ : Array Value) (s : State) (o : Outcome) (t : State) : Prop := o = .returned (some (.int 1)) ∧ Framed s o t [] 600000 7302249
def lw_Z (below : List Frame) (a : Array Value) (s : State) : State → Prop := fun t => ∃ o, t.status = .running ∧ Ended t below o ∧ lw_Q a s o t
/-- the law's own end, with 1 on the stack, nothing written that was there before, its room as the claim has it -/
theorem lw_ret {p : Program} {l : Launch} {e : Env} {s : State} {m : MethodId} {below : List Frame} {meth : Method} {c : Code} {b : Nat} (hx : p.tables.exec = Jvm.exec) (hb : c.code = code) (hr : meth.sig.returnType = ret) (hlocks : meth.locks = false) {pc : Nat} {H : Heap} {ls : Array Slot} (hdg : decode code pc = .ok (.ireturn, 1)) : W p l e room_1 s m #[Value.ref b] below meth c H [] 600000 7302249 (lw_Z below #[Value.ref b] s) (F0 m pc ls [.int 1]) := by
  intro T hT X
  obtain ⟨fs, hret, hrun, hended, hW, hframe⟩ := X.leave (v := some (.int 1)) (hlocks := hlocks) (fun h => by rw [hr] at h; cases h)
  have hmeth' : T.vm.method? m = some meth := X.method'
  refine ⟨T.setFrames fs, ?_, .returned (some (.int 1)), hrun, hended, rfl, ⟨_, rfl⟩, hW, hframe⟩
  jvm_step X.here [X.here.top, hx, hb, hdg, hmeth', hr, ret, narrow_b1]
  (try refine ⟨rfl, ?_⟩); (try refine ⟨rfl, ?_⟩)
  first | (intro acts; rw [hret _ acts rfl rfl rfl]) | rw [hret _ _ rfl rfl rfl]
  exact Steps.refl _
/-- what holds at the law's entry: the machine, the code, the tables' words (any of lw_tbl by 'hts w (by decide +kernel)'), the script of L ints xs at the cell b, what the Statement gives of the start (any of its parts by flat_of_before) -/
def lw_At (p : Program) (s : State) (m : MethodId) (meth : Method) (c : Code) (b L : Nat) (xs : Nat → Int32) : Prop :=
  p.tables.exec = Jvm.exec ∧ c.code = code ∧ meth.sig.returnType = ret ∧ c.maxLocals = 4 ∧ s.vm.findClass R_law = some m.cls ∧ (∀ w ∈ lw_tbl, w.before #[Value.ref b] s = true) ∧ va_X b L xs s s.heap ∧ b < s.heap.size ∧ meth.locks = false ∧ (Jvm.Cond.and given_1 narrow_1).before #[Value.ref b] s = true
theorem st_ok {kd : Nat → Int32} {nd : Int32} {sv : Nat → Int64} {sd : Nat → Int32} {se sh : Int32} {kp : Nat → Int64} {kx : Nat → Int32} {st : Int32} (h : RelK kd nd sv sd se sh kp kx st) : 0 ≤ st ∧ st ≤ 6 := by
  rw [← h.2.1]
  exact ⟨h.1.2.2.1, h.1.2.2.2⟩
set_option maxHeartbeats 4000000 in
set_option maxRecDepth 100000 in
theorem law_dial {p : Program} {l : Launch} {e : Env} {s : State} {m : MethodId} {below : List Frame} {meth : Method} {c : Code} {dC : Nat → ClassId} {dI : Nat → Nat → Nat} {cI cJ cZ : ClassId} {sb L : Nat} {xs : Nat → Int32} {a b : Nat → Nat} (kd : Nat → Int32) (lo : Nat → Int64) (hi : Nat → Int64) (vl : Nat → Int64) (nd : Int32) (so : Nat → Int32) (fr : Nat → Int32) (tg : Nat → Int32) (gn : Nat → Int32) (nr : Int32) (mo : Int32) (ma : Int32) (fa : Int32) (sv : Nat → Int64) (sd : Nat → Int32) (se : Int32) (sh : Int32) (gm : Nat → Int32) (kp : Nat → Int64) (ah : Nat → Int64) (kx : Nat → Int32) (st : Int32) (mp : Int32) (op : Nat → Int32) (nx : Nat → Int32) (i : Nat) (H : Heap) (locs : List Loc) (ls : Array Slot) (hL : L ≤ 3072) (hlt : i + 6 ≤ L) (C0 : lw_At p s m meth c sb L xs) (hK : va_K (dC, dI) vwCl (tA cI cJ cZ) s) (hRS : RelS kd lo hi vl nd so fr tg nr) (hRK : RelK kd nd sv sd se sh kp kx st) (hP : va_P (dC, dI) vwCl ((wX cI cJ cZ a kd lo hi vl nd so fr tg gn nr mo ma fa sv sd se sh) ++ (wM cI cJ cZ b kd vl lo hi nd so fr tg gm nr kp ah kx st mp ma fa op nx)) H) (hD : va_D (fun q : Nat => s.heap.size ≤ q) ((wX cI cJ cZ a kd lo hi vl nd so fr tg gn nr mo ma fa sv sd se sh) ++ (wM cI cJ cZ b kd vl lo hi nd so fr tg gm nr kp ah kx st mp ma fa op nx))) (hS : va_S (fun q : Nat => s.heap.size ≤ q) s.heap H locs) (hl : lv_has ls 4 [(3, .int (nI i)), (2, .ref (b 0)), (1, .ref (a 0)), (0, .ref sb)]) (hnext : ∀ (x3 : Int32) (kd : Nat → Int32) (lo : Nat → Int64) (hi : Nat → Int64) (vl : Nat → Int64) (nd : Int32) (so : Nat → Int32) (fr : Nat → Int32) (tg : Nat → Int32) (gn : Nat → Int32) (nr : Int32) (mo : Int32) (ma : Int32) (fa : Int32) (sv : Nat → Int64) (sd : Nat → Int32) (se : Int32) (sh : Int32) (gm : Nat → Int32) (kp : Nat → Int64) (ah : Nat → Int64) (kx : Nat → Int32) (st : Int32) (mp : Int32) (op : Nat → Int32) (nx : Nat → Int32) (H : Heap) (locs : List Loc) (ls : Array Slot), x3 = nI (i + 6) → RelS kd lo hi vl nd so fr tg nr → RelK kd nd sv sd se sh kp kx st → va_P (dC, dI) vwCl ((wX cI cJ cZ a kd lo hi vl nd so fr tg gn nr mo ma fa sv sd se sh) ++ (wM cI cJ cZ b kd vl lo hi nd so fr tg gm nr kp ah kx st mp ma fa op nx)) H → va_D (fun q : Nat => s.heap.size ≤ q) ((wX cI cJ cZ a kd lo hi vl nd so fr tg gn nr mo ma fa sv sd se sh) ++ (wM cI cJ cZ b kd vl lo hi nd so fr tg gm nr kp ah kx st mp ma fa op nx)) → va_S (fun q : Nat => s.heap.size ≤ q) s.heap H locs → lv_has ls 4 [(3, .int x3), (2, .ref (b 0)), (1, .ref (a 0)), (0, .ref sb)] → W p l e room_1 s m #[Value.ref sb] below meth c H locs 26 629 (lw_Z below #[Value.ref sb] s) (F0 m 18 ls [])) : W p l e room_1 s m #[Value.ref sb] below meth c H locs 26 629 (lw_Z below #[Value.ref sb] s) (F0 m 84 ls []) := by
  obtain ⟨hx, hb, hr, hml, hown, hts, hX, hbl, hlocks, hgv⟩ := C0
  have hts : ∀ w ∈ wsL_law, w.before #[Value.ref sb] s = true := fun w h => hts w (wsL_law_in w h)
  have hown : s.vm.findClass RL = some m.cls := hown
  have hb : c.code = cL_law := hb
  have hA : ∀ q : Nat, s.heap.size ≤ q → (fun q : Nat => s.heap.size ≤ q) q := fun _ h => h
  have hbA : ¬ (fun q : Nat => s.heap.size ≤ q) sb := Nat.not_le.mpr hbl
  have k_0 := hts (.constantLong RL 13 (4294967295)) (by decide +kernel)
  refine lv_aload_n hx hb dL_law_84 rfl (lv_at hl 2 rfl) ?_
  refine lv_aload_n hx hb dL_law_85 rfl (lv_at hl 3 rfl) ?_
  refine lv_iload_n hx hb dL_law_86 rfl (lv_at hl 0 rfl) ?_
  refine lv_iconst (v := 1) hx hb dL_law_87 (by decide) ?_
  refine lv_iadd hx hb dL_law_88 ?_
  refine va_sld hx hb hX hbl hbA hS (by rw [show (1 : Int32) = nI 1 from rfl, nI_add]; exact vp_in_nI (by omega) (by omega)) dL_law_89 ?_
  refine lv_aload_n hx hb dL_law_90 rfl (lv_at hl 3 rfl) ?_
  refine lv_iload_n hx hb dL_law_91 rfl (lv_at hl 0 rfl) ?_
  refine lv_iconst (v := 2) hx hb dL_law_92 (by decide) ?_
  refine lv_iadd hx hb dL_law_93 ?_
  refine va_sld hx hb hX hbl hbA hS (by rw [show (2 : Int32) = nI 2 from rfl, nI_add]; exact vp_in_nI (by omega) (by omega)) dL_law_94 ?_
  refine lv_i2l hx hb dL_law_95 rfl ?_
  refine lv_bipush (v := 32) hx hb dL_law_96 (by decide) ?_
  refine lv_lshl hx hb dL_law_98 rfl ?_
  refine lv_aload_n hx hb dL_law_99 rfl (lv_at hl 3 rfl) ?_
  refine lv_iload_n hx hb dL_law_100 rfl (lv_at hl 0 rfl) ?_
  refine lv_iconst (v := 3) hx hb dL_law_101 (by decide) ?_
  refine lv_iadd hx hb dL_law_102 ?_
  refine va_sld hx hb hX hbl hbA hS (by rw [show (3 : Int32) = nI 3 from rfl, nI_add]; exact vp_in_nI (by omega) (by omega)) dL_law_103 ?_
  refine lv_i2l hx hb dL_law_104 rfl ?_
  refine lv_ldc2 hx hb hown k_0 dL_law_105 ?_
  refine lv_land hx hb dL_law_108 ?_
  refine lv_lor hx hb dL_law_109 ?_
  refine lv_aload_n hx hb dL_law_110 rfl (lv_at hl 3 rfl) ?_
  refine lv_iload_n hx hb dL_law_111 rfl (lv_at hl 0 rfl) ?_
  refine lv_iconst (v := 4) hx hb dL_law_112 (by decide) ?_
  refine lv_iadd hx hb dL_law_113 ?_
  refine va_sld hx hb hX hbl hbA hS (by rw [show (4 : Int32) = nI 4 from rfl, nI_add]; exact vp_in_nI (by omega) (by omega)) dL_law_114 ?_
  refine lv_i2l hx hb dL_law_115 rfl ?_
  refine lv_bipush (v := 32) hx hb dL_law_116 (by decide) ?_
  refine lv_lshl hx hb dL_law_118 rfl ?_
  refine lv_aload_n hx hb dL_law_119 rfl (lv_at hl 3 rfl) ?_
  refine lv_iload_n hx hb dL_law_120 rfl (lv_at hl 0 rfl) ?_
  refine lv_iconst (v := 5) hx hb dL_law_121 (by decide) ?_
  refine lv_iadd hx hb dL_law_122 ?_
  refine va_sld hx hb hX hbl hbA hS (by rw [show (5 : Int32) = nI 5 from rfl, nI_add]; exact vp_in_nI (by omega) (by omega)) dL_law_123 ?_
  refine lv_i2l hx hb dL_law_124 rfl ?_
  refine lv_ldc2 hx hb hown k_0 dL_law_125 ?_
  refine lv_land hx hb dL_law_128 ?_
  refine lv_lor hx hb dL_law_129 ?_
  have hPc := hP.sub (ws' := (wX cI cJ cZ a kd lo hi vl nd so fr tg gn nr mo ma fa sv sd se sh)) [0, 1, 2, 3, 4, 5, 6, 7, 8, 9, 10, 11] rfl
  have hDc := hD.sub (ws' := (wX cI cJ cZ a kd lo hi vl nd so fr tg gn nr mo ma fa sv sd se sh)) [0, 1, 2, 3, 4, 5, 6, 7, 8, 9, 10, 11] (by decide) rfl
  have hFc := va_free (wc := (wX cI cJ cZ a kd lo hi vl nd so fr tg gn nr mo ma fa sv sd se sh)) hD hS hA [0, 1, 2, 3, 4, 5, 6, 7, 8, 9, 10, 11] rfl
  refine va_calli (va_runV (As := [.int (xs ((nI i) + (1 : Int32)).toNatClampNeg), .long (((xs ((nI i) + (2 : Int32)).toNatClampNeg).toInt64 <<< ((32 : Int32).toInt64 &&& 63)) ||| ((xs ((nI i) + (3 : Int32)).toNatClampNeg).toInt64 &&& (4294967295 : Int64))), .long (((xs ((nI i) + (4 : Int32)).toNatClampNeg).toInt64 <<< ((32 : Int32).toInt64 &&& 63)) ||| ((xs ((nI i) + (5 : Int32)).toNatClampNeg).toInt64 &&& (4294967295 : Int64)))]) (rest := []) ⟨hx, hb, hml, hown, hts⟩ (c_X2_dial l dC dI cI cJ cZ a kd lo hi vl nd so fr tg gn nr mo ma fa sv sd se sh (xs ((nI i) + (1 : Int32)).toNatClampNeg) (((xs ((nI i) + (2 : Int32)).toNatClampNeg).toInt64 <<< ((32 : Int32).toInt64 &&& 63)) ||| ((xs ((nI i) + (3 : Int32)).toNatClampNeg).toInt64 &&& (4294967295 : Int64))) (((xs ((nI i) + (4 : Int32)).toNatClampNeg).toInt64 <<< ((32 : Int32).toInt64 &&& 63)) ||| ((xs ((nI i) + (5 : Int32)).toNatClampNeg).toInt64 &&& (4294967295 : Int64))) hRS.1 H.size) (cwV 3 hts gL_law_X2_dial rfl rfl rfl (by decide +kernel) ⟨Nat.le_of_ble_eq_true rfl, Nat.le_of_ble_eq_true rfl⟩) (fb_m hK hPc hDc (va_recv hK hPc (ci := 1) (q0 := 0) rfl rfl)) rfl rfl hl.1 rfl (lv_room (Nat.le_of_ble_eq_true rfl)) dL_law_130 ⟨Nat.le_of_ble_eq_true rfl, Nat.le_of_ble_eq_true rfl⟩) hS (fun q _ h => hFc q h) hFc (fun r_1 u t H1 locs ht hvm hw_1 hB hz1 hk1 hS => ?_)
  obtain ⟨kd_1, lo_1, hi_1, vl_1, nd_1, so_1, fr_1, tg_1, gn_1, nr_1, mo_1, ma_1, fa_1, sv_1, sd_1, se_1, sh_1⟩ := u
  obtain ⟨hP1, hK1, hD1⟩ := hB
  rw [ht] at hP1
  obtain ⟨hP, hD⟩ := va_join (wr := (wM cI cJ cZ b kd vl lo hi nd so fr tg gm nr kp ah kx st mp ma fa op nx)) (w1 := (wX cI cJ cZ a kd_1 lo_1 hi_1 vl_1 nd_1 so_1 fr_1 tg_1 gn_1 nr_1 mo_1 ma_1 fa_1 sv_1 sd_1 se_1 sh_1)) hP hD [0, 1, 2, 3, 4, 5, 6, 7, 8, 9, 10, 11] [12, 13, 14, 15, 16, 17, 18, 19, 20, 21, 22, 23, 24, 25] rfl rfl (by decide) (by decide) hk1 hFc hP1 hD1
  generalize H1 = H at hP hS ⊢
  have hP : va_P (dC, dI) vwCl ((wM cI cJ cZ b kd vl lo hi nd so fr tg gm nr kp ah kx st mp ma fa op nx) ++ (wX cI cJ cZ a kd_1 lo_1 hi_1 vl_1 nd_1 so_1 fr_1 tg_1 gn_1 nr_1 mo_1 ma_1 fa_1 sv_1 sd_1 se_1 sh_1)) H := hP
  have hD : va_D (fun q : Nat => s.heap.size ≤ q) ((wM cI cJ cZ b kd vl lo hi nd so fr tg gm nr kp ah kx st mp ma fa op nx) ++ (wX cI cJ cZ a kd_1 lo_1 hi_1 vl_1 nd_1 so_1 fr_1 tg_1 gn_1 nr_1 mo_1 ma_1 fa_1 sv_1 sd_1 se_1 sh_1)) := hD
  refine lv_aload_n hx hb dL_law_133 rfl (lv_at hl 1 rfl) ?_
  refine lv_aload_n hx hb dL_law_134 rfl (lv_at hl 3 rfl) ?_
  refine lv_iload_n hx hb dL_law_135 rfl (lv_at hl 0 rfl) ?_
  refine lv_iconst (v := 1) hx hb dL_law_136 (by decide) ?_
  refine lv_iadd hx hb dL_law_137 ?_
  refine va_sld hx hb hX hbl hbA hS (by rw [show (1 : Int32) = nI 1 from rfl, nI_add]; exact vp_in_nI (by omega) (by omega)) dL_law_138 ?_
  refine lv_aload_n hx hb dL_law_139 rfl (lv_at hl 3 rfl) ?_
  refine lv_iload_n hx hb dL_law_140 rfl (lv_at hl 0 rfl) ?_
  refine lv_iconst (v := 2) hx hb dL_law_141 (by decide) ?_
  refine lv_iadd hx hb dL_law_142 ?_
  refine va_sld hx hb hX hbl hbA hS (by rw [show (2 : Int32) = nI 2 from rfl, nI_add]; exact vp_in_nI (by omega) (by omega)) dL_law_143 ?_
  refine lv_i2l hx hb dL_law_144 rfl ?_
  refine lv_bipush (v := 32) hx hb dL_law_145 (by decide) ?_
  refine lv_lshl hx hb dL_law_147 rfl ?_
  refine lv_aload_n hx hb dL_law_148 rfl (lv_at hl 3 rfl) ?_
  refine lv_iload_n hx hb dL_law_149 rfl (lv_at hl 0 rfl) ?_
  refine lv_iconst (v := 3) hx hb dL_law_150 (by decide) ?_
  refine lv_iadd hx hb dL_law_151 ?_
  refine va_sld hx hb hX hbl hbA hS (by rw [show (3 : Int32) = nI 3 from rfl, nI_add]; exact vp_in_nI (by omega) (by omega)) dL_law_152 ?_
  refine lv_i2l hx hb dL_law_153 rfl ?_
  refine lv_ldc2 hx hb hown k_0 dL_law_154 ?_
  refine lv_land hx hb dL_law_157 ?_
  refine lv_lor hx hb dL_law_158 ?_
  refine lv_aload_n hx hb dL_law_159 rfl (lv_at hl 3 rfl) ?_
  refine lv_iload_n hx hb dL_law_160 rfl (lv_at hl 0 rfl) ?_
  refine lv_iconst (v := 4) hx hb dL_law_161 (by decide) ?_
  refine lv_iadd hx hb dL_law_162 ?_
  refine va_sld hx hb hX hbl hbA hS (by rw [show (4 : Int32) = nI 4 from rfl, nI_add]; exact vp_in_nI (by omega) (by omega)) dL_law_163 ?_
  refine lv_i2l hx hb dL_law_164 rfl ?_
  refine lv_bipush (v := 32) hx hb dL_law_165 (by decide) ?_
  refine lv_lshl hx hb dL_law_167 rfl ?_
  refine lv_aload_n hx hb dL_law_168 rfl (lv_at hl 3 rfl) ?_
  refine lv_iload_n hx hb dL_law_169 rfl (lv_at hl 0 rfl) ?_
  refine lv_iconst (v := 5) hx hb dL_law_170 (by decide) ?_
  refine lv_iadd hx hb dL_law_171 ?_
  refine va_sld hx hb hX hbl hbA hS (by rw [show (5 : Int32) = nI 5 from rfl, nI_add]; exact vp_in_nI (by omega) (by omega)) dL_law_172 ?_
  refine lv_i2l hx hb dL_law_173 rfl ?_
  refine lv_ldc2 hx hb hown k_0 dL_law_174 ?_
  refine lv_land hx hb dL_law_177 ?_
  refine lv_lor hx hb dL_law_178 ?_
  have hPc := hP.sub (ws' := (wM cI cJ cZ b kd vl lo hi nd so fr tg gm nr kp ah kx st mp ma fa op nx)) [0, 1, 2, 3, 4, 5, 6, 7, 8, 9, 10, 11, 12, 13] rfl
  have hDc := hD.sub (ws' := (wM cI cJ cZ b kd vl lo hi nd so fr tg gm nr kp ah kx st mp ma fa op nx)) [0, 1, 2, 3, 4, 5, 6, 7, 8, 9, 10, 11, 12, 13] (by decide) rfl
  have hFc := va_free (wc := (wM cI cJ cZ b kd vl lo hi nd so fr tg gm nr kp ah kx st mp ma fa op nx)) hD hS hA [0, 1, 2, 3, 4, 5, 6, 7, 8, 9, 10, 11, 12, 13] rfl
  refine va_calli (va_runV (As := [.int (xs ((nI i) + (1 : Int32)).toNatClampNeg), .long (((xs ((nI i) + (2 : Int32)).toNatClampNeg).toInt64 <<< ((32 : Int32).toInt64 &&& 63)) ||| ((xs ((nI i) + (3 : Int32)).toNatClampNeg).toInt64 &&& (4294967295 : Int64))), .long (((xs ((nI i) + (4 : Int32)).toNatClampNeg).toInt64 <<< ((32 : Int32).toInt64 &&& 63)) ||| ((xs ((nI i) + (5 : Int32)).toNatClampNeg).toInt64 &&& (4294967295 : Int64)))]) (rest := [.int r_1]) ⟨hx, hb, hml, hown, hts⟩ (c_X3_dial l dC dI cI cJ cZ b kd vl lo hi nd so fr tg gm nr kp ah kx st mp ma fa op nx (xs ((nI i) + (1 : Int32)).toNatClampNeg) (((xs ((nI i) + (2 : Int32)).toNatClampNeg).toInt64 <<< ((32 : Int32).toInt64 &&& 63)) ||| ((xs ((nI i) + (3 : Int32)).toNatClampNeg).toInt64 &&& (4294967295 : Int64))) (((xs ((nI i) + (4 : Int32)).toNatClampNeg).toInt64 <<< ((32 : Int32).toInt64 &&& 63)) ||| ((xs ((nI i) + (5 : Int32)).toNatClampNeg).toInt64 &&& (4294967295 : Int64))) hRS.1 H.size) (cwV 3 hts gL_law_X3_dial rfl rfl rfl (by decide +kernel) ⟨Nat.le_of_ble_eq_true rfl, Nat.le_of_ble_eq_true rfl⟩) (fb_m hK hPc hDc (va_recv hK hPc (ci := 2) (q0 := 0) rfl rfl)) rfl rfl hl.1 rfl (lv_room (Nat.le_of_ble_eq_true rfl)) dL_law_179 ⟨Nat.le_of_ble_eq_true rfl, Nat.le_of_ble_eq_true rfl⟩) hS (fun q _ h => hFc q h) hFc (fun r_2 u t H1 locs ht hvm hw_2 hB hz1 hk1 hS => ?_)
  obtain ⟨kd_2, vl_2, lo_2, hi_2, nd_2, so_2, fr_2, tg_2, gm_2, nr_2, kp_2, ah_2, kx_2, st_2, mp_2, ma_2, fa_2, op_2, nx_2⟩ := u
  obtain ⟨hP1, hK1, hD1⟩ := hB
  rw [ht] at hP1
  obtain ⟨hP, hD⟩ := va_join (wr := (wX cI cJ cZ a kd_1 lo_1 hi_1 vl_1 nd_1 so_1 fr_1 tg_1 gn_1 nr_1 mo_1 ma_1 fa_1 sv_1 sd_1 se_1 sh_1)) (w1 := (wM cI cJ cZ b kd_2 vl_2 lo_2 hi_2 nd_2 so_2 fr_2 tg_2 gm_2 nr_2 kp_2 ah_2 kx_2 st_2 mp_2 ma_2 fa_2 op_2 nx_2)) hP hD [0, 1, 2, 3, 4, 5, 6, 7, 8, 9, 10, 11, 12, 13] [14, 15, 16, 17, 18, 19, 20, 21, 22, 23, 24, 25] rfl rfl (by decide) (by decide) hk1 hFc hP1 hD1
  generalize H1 = H at hP hS ⊢
  have hP : va_P (dC, dI) vwCl ((wX cI cJ cZ a kd_1 lo_1 hi_1 vl_1 nd_1 so_1 fr_1 tg_1 gn_1 nr_1 mo_1 ma_1 fa_1 sv_1 sd_1 se_1 sh_1) ++ (wM cI cJ cZ b kd_2 vl_2 lo_2 hi_2 nd_2 so_2 fr_2 tg_2 gm_2 nr_2 kp_2 ah_2 kx_2 st_2 mp_2 ma_2 fa_2 op_2 nx_2)) H := hP
  have hD : va_D (fun q : Nat => s.heap.size ≤ q) ((wX cI cJ cZ a kd_1 lo_1 hi_1 vl_1 nd_1 so_1 fr_1 tg_1 gn_1 nr_1 mo_1 ma_1 fa_1 sv_1 sd_1 se_1 sh_1) ++ (wM cI cJ cZ b kd_2 vl_2 lo_2 hi_2 nd_2 so_2 fr_2 tg_2 gm_2 nr_2 kp_2 ah_2 kx_2 st_2 mp_2 ma_2 fa_2 op_2 nx_2)) := hD
  have hpo : Post (r_1, kd_1, lo_1, hi_1, vl_1, nd_1, so_1, fr_1, tg_1, gn_1, nr_1, mo_1, ma_1, fa_1, sv_1, sd_1, se_1, sh_1) (r_2, kd_2, vl_2, lo_2, hi_2, nd_2, so_2, fr_2, tg_2, gm_2, nr_2, kp_2, ah_2, kx_2, st_2, mp_2, ma_2, fa_2, op_2, nx_2) := by rw [hw_1, hw_2]; exact op_dial hRS hRK
  obtain ⟨rfl, rfl, rfl, rfl, rfl, rfl, rfl, rfl, rfl, rfl, rfl, rfl, hRS, hRK⟩ := hpo
  refine lv_icmp_eq (tgt := 472) hx hb dL_law_182 (by decide) (fun c_1 => ?_) (fun c_1 => ?_)
  · skip
    refine lv_iinc (v := ((nI i) + 6)) (lv' := [(3, .int ((nI i) + 6)), (2, .ref (b 0)), (1, .ref (a 0)), (0, .ref sb)]) hx hb dL_law_472 hl (k := 0) rfl rfl (by decide) rfl (fun ls hl => ?_)
    refine lv_goto (tgt := 18) hx hb dL_law_475 (by decide) ?_
    exact hnext _ kd_1 lo_1 hi_1 vl_1 nd_1 so_1 fr_1 tg_1 gn_1 nr_1 mo_1 ma_1 fa_1 sv_1 sd_1 se_1 sh_1 gm_2 kp_2 ah_2 kx_2 st_2 mp_2 op_2 nx_2 H locs ls (show nI i + 6 = nI (i + 6) from nI_add i 6) hRS hRK hP hD hS (lv_sub hl [0, 1, 2, 3] rfl)
  · skip
    exact absurd rfl c_1
set_option maxHeartbeats 4000000 in
set_option maxRecDepth 100000 in
theorem law_rod {p : Program} {l : Launch} {e : Env} {s : State} {m : MethodId} {below : List Frame} {meth : Method} {c : Code} {dC : Nat → ClassId} {dI : Nat → Nat → Nat} {cI cJ cZ : ClassId} {sb L : Nat} {xs : Nat → Int32} {a b : Nat → Nat} (kd : Nat → Int32) (lo : Nat → Int64) (hi : Nat → Int64) (vl : Nat → Int64) (nd : Int32) (so : Nat → Int32) (fr : Nat → Int32) (tg : Nat → Int32) (gn : Nat → Int32) (nr : Int32) (mo : Int32) (ma : Int32) (fa : Int32) (sv : Nat → Int64) (sd : Nat → Int32) (se : Int32) (sh : Int32) (gm : Nat → Int32) (kp : Nat → Int64) (ah : Nat → Int64) (kx : Nat → Int32) (st : Int32) (mp : Int32) (op : Nat → Int32) (nx : Nat → Int32) (i : Nat) (H : Heap) (locs : List Loc) (ls : Array Slot) (hL : L ≤ 3072) (hlt : i + 6 ≤ L) (C0 : lw_At p s m meth c sb L xs) (hK : va_K (dC, dI) vwCl (tA cI cJ cZ) s) (hRS : RelS kd lo hi vl nd so fr tg nr) (hRK : RelK kd nd sv sd se sh kp kx st) (hP : va_P (dC, dI) vwCl ((wX cI cJ cZ a kd lo hi vl nd so fr tg gn nr mo ma fa sv sd se sh) ++ (wM cI cJ cZ b kd vl lo hi nd so fr tg gm nr kp ah kx st mp ma fa op nx)) H) (hD : va_D (fun q : Nat => s.heap.size ≤ q) ((wX cI cJ cZ a kd lo hi vl nd so fr tg gn nr mo ma fa sv sd se sh) ++ (wM cI cJ cZ b kd vl lo hi nd so fr tg gm nr kp ah kx st mp ma fa op nx))) (hS : va_S (fun q : Nat => s.heap.size ≤ q) s.heap H locs) (hl : lv_has ls 4 [(3, .int (nI i)), (2, .ref (b 0)), (1, .ref (a 0)), (0, .ref sb)]) (hnext : ∀ (x3 : Int32) (kd : Nat → Int32) (lo : Nat → Int64) (hi : Nat → Int64) (vl : Nat → Int64) (nd : Int32) (so : Nat → Int32) (fr : Nat → Int32) (tg : Nat → Int32) (gn : Nat → Int32) (nr : Int32) (mo : Int32) (ma : Int32) (fa : Int32) (sv : Nat → Int64) (sd : Nat → Int32) (se : Int32) (sh : Int32) (gm : Nat → Int32) (kp : Nat → Int64) (ah : Nat → Int64) (kx : Nat → Int32) (st : Int32) (mp : Int32) (op : Nat → Int32) (nx : Nat → Int32) (H : Heap) (locs : List Loc) (ls : Array Slot), x3 = nI (i + 6) → RelS kd lo hi vl nd so fr tg nr → RelK kd nd sv sd se sh kp kx st → va_P (dC, dI) vwCl ((wX cI cJ cZ a kd lo hi vl nd so fr tg gn nr mo ma fa sv sd se sh) ++ (wM cI cJ cZ b kd vl lo hi nd so fr tg gm nr kp ah kx st mp ma fa op nx)) H → va_D (fun q : Nat => s.heap.size ≤ q) ((wX cI cJ cZ a kd lo hi vl nd so fr tg gn nr mo ma fa sv sd se sh) ++ (wM cI cJ cZ b kd vl lo hi nd so fr tg gm nr kp ah kx st mp ma fa op nx)) → va_S (fun q : Nat => s.heap.size ≤ q) s.heap H locs → lv_has ls 4 [(3, .int x3), (2, .ref (b 0)), (1, .ref (a 0)), (0, .ref sb)] → W p l e room_1 s m #[Value.ref sb] below meth c H locs 26 629 (lw_Z below #[Value.ref sb] s) (F0 m 18 ls [])) : W p l e room_1 s m #[Value.ref sb] below meth c H locs 26 629 (lw_Z below #[Value.ref sb] s) (F0 m 187 ls []) := by
  obtain ⟨hx, hb, hr, hml, hown, hts, hX, hbl, hlocks, hgv⟩ := C0
  have hts : ∀ w ∈ wsL_law, w.before #[Value.ref sb] s = true := fun w h => hts w (wsL_law_in w h)
  have hown : s.vm.findClass RL = some m.cls := hown
  have hb : c.code = cL_law := hb
  have hA : ∀ q : Nat, s.heap.size ≤ q → (fun q : Nat => s.heap.size ≤ q) q := fun _ h => h
  have hbA : ¬ (fun q : Nat => s.heap.size ≤ q) sb := Nat.not_le.mpr hbl
  refine lv_aload_n hx hb dL_law_187 rfl (lv_at hl 2 rfl) ?_
  refine lv_aload_n hx hb dL_law_188 rfl (lv_at hl 3 rfl) ?_
  refine lv_iload_n hx hb dL_law_189 rfl (lv_at hl 0 rfl) ?_
  refine lv_iconst (v := 1) hx hb dL_law_190 (by decide) ?_
  refine lv_iadd hx hb dL_law_191 ?_
  refine va_sld hx hb hX hbl hbA hS (by rw [show (1 : Int32) = nI 1 from rfl, nI_add]; exact vp_in_nI (by omega) (by omega)) dL_law_192 ?_
  refine lv_aload_n hx hb dL_law_193 rfl (lv_at hl 3 rfl) ?_
  refine lv_iload_n hx hb dL_law_194 rfl (lv_at hl 0 rfl) ?_
  refine lv_iconst (v := 2) hx hb dL_law_195 (by decide) ?_
  refine lv_iadd hx hb dL_law_196 ?_
  refine va_sld hx hb hX hbl hbA hS (by rw [show (2 : Int32) = nI 2 from rfl, nI_add]; exact vp_in_nI (by omega) (by omega)) dL_law_197 ?_
  refine lv_aload_n hx hb dL_law_198 rfl (lv_at hl 3 rfl) ?_
  refine lv_iload_n hx hb dL_law_199 rfl (lv_at hl 0 rfl) ?_
  refine lv_iconst (v := 3) hx hb dL_law_200 (by decide) ?_
  refine lv_iadd hx hb dL_law_201 ?_
  refine va_sld hx hb hX hbl hbA hS (by rw [show (3 : Int32) = nI 3 from rfl, nI_add]; exact vp_in_nI (by omega) (by omega)) dL_law_202 ?_
  have hPc := hP.sub (ws' := (wX cI cJ cZ a kd lo hi vl nd so fr tg gn nr mo ma fa sv sd se sh)) [0, 1, 2, 3, 4, 5, 6, 7, 8, 9, 10, 11] rfl
  have hDc := hD.sub (ws' := (wX cI cJ cZ a kd lo hi vl nd so fr tg gn nr mo ma fa sv sd se sh)) [0, 1, 2, 3, 4, 5, 6, 7, 8, 9, 10, 11] (by decide) rfl
  have hFc := va_free (wc := (wX cI cJ cZ a kd lo hi vl nd so fr tg gn nr mo ma fa sv sd se sh)) hD hS hA [0, 1, 2, 3, 4, 5, 6, 7, 8, 9, 10, 11] rfl
  refine va_calli (va_runV (As := [.int (xs ((nI i) + (1 : Int32)).toNatClampNeg), .int (xs ((nI i) + (2 : Int32)).toNatClampNeg), .int (xs ((nI i) + (3 : Int32)).toNatClampNeg)]) (rest := []) ⟨hx, hb, hml, hown, hts⟩ (c_X2_rod l dC dI cI cJ cZ a kd lo hi vl nd so fr tg gn nr mo ma fa sv sd se sh (xs ((nI i) + (1 : Int32)).toNatClampNeg) (xs ((nI i) + (2 : Int32)).toNatClampNeg) (xs ((nI i) + (3 : Int32)).toNatClampNeg) hRS.1 hRS.2.1 H.size) (cwV 3 hts gL_law_X2_rod rfl rfl rfl (by decide +kernel) ⟨Nat.le_of_ble_eq_true rfl, Nat.le_of_ble_eq_true rfl⟩) (fb_m hK hPc hDc (va_recv hK hPc (ci := 1) (q0 := 0) rfl rfl)) rfl rfl hl.1 rfl (lv_room (Nat.le_of_ble_eq_true rfl)) dL_law_203 ⟨Nat.le_of_ble_eq_true rfl, Nat.le_of_ble_eq_true rfl⟩) hS (fun q _ h => hFc q h) hFc (fun r_1 u t H1 locs ht hvm hw_1 hB hz1 hk1 hS => ?_)
  obtain ⟨kd_1, lo_1, hi_1, vl_1, nd_1, so_1, fr_1, tg_1, gn_1, nr_1, mo_1, ma_1, fa_1, sv_1, sd_1, se_1, sh_1⟩ := u
  obtain ⟨hP1, hK1, hD1⟩ := hB
  rw [ht] at hP1
  obtain ⟨hP, hD⟩ := va_join (wr := (wM cI cJ cZ b kd vl lo hi nd so fr tg gm nr kp ah kx st mp ma fa op nx)) (w1 := (wX cI cJ cZ a kd_1 lo_1 hi_1 vl_1 nd_1 so_1 fr_1 tg_1 gn_1 nr_1 mo_1 ma_1 fa_1 sv_1 sd_1 se_1 sh_1)) hP hD [0, 1, 2, 3, 4, 5, 6, 7, 8, 9, 10, 11] [12, 13, 14, 15, 16, 17, 18, 19, 20, 21, 22, 23, 24, 25] rfl rfl (by decide) (by decide) hk1 hFc hP1 hD1
  generalize H1 = H at hP hS ⊢
  have hP : va_P (dC, dI) vwCl ((wM cI cJ cZ b kd vl lo hi nd so fr tg gm nr kp ah kx st mp ma fa op nx) ++ (wX cI cJ cZ a kd_1 lo_1 hi_1 vl_1 nd_1 so_1 fr_1 tg_1 gn_1 nr_1 mo_1 ma_1 fa_1 sv_1 sd_1 se_1 sh_1)) H := hP
  have hD : va_D (fun q : Nat => s.heap.size ≤ q) ((wM cI cJ cZ b kd vl lo hi nd so fr tg gm nr kp ah kx st mp ma fa op nx) ++ (wX cI cJ cZ a kd_1 lo_1 hi_1 vl_1 nd_1 so_1 fr_1 tg_1 gn_1 nr_1 mo_1 ma_1 fa_1 sv_1 sd_1 se_1 sh_1)) := hD
  refine lv_aload_n hx hb dL_law_206 rfl (lv_at hl 1 rfl) ?_
  refine lv_aload_n hx hb dL_law_207 rfl (lv_at hl 3 rfl) ?_
  refine lv_iload_n hx hb dL_law_208 rfl (lv_at hl 0 rfl) ?_
  refine lv_iconst (v := 1) hx hb dL_law_209 (by decide) ?_
  refine lv_iadd hx hb dL_law_210 ?_
  refine va_sld hx hb hX hbl hbA hS (by rw [show (1 : Int32) = nI 1 from rfl, nI_add]; exact vp_in_nI (by omega) (by omega)) dL_law_211 ?_
  refine lv_aload_n hx hb dL_law_212 rfl (lv_at hl 3 rfl) ?_
  refine lv_iload_n hx hb dL_law_213 rfl (lv_at hl 0 rfl) ?_
  refine lv_iconst (v := 2) hx hb dL_law_214 (by decide) ?_
  refine lv_iadd hx hb dL_law_215 ?_
  refine va_sld hx hb hX hbl hbA hS (by rw [show (2 : Int32) = nI 2 from rfl, nI_add]; exact vp_in_nI (by omega) (by omega)) dL_law_216 ?_
  refine lv_aload_n hx hb dL_law_217 rfl (lv_at hl 3 rfl) ?_
  refine lv_iload_n hx hb dL_law_218 rfl (lv_at hl 0 rfl) ?_
  refine lv_iconst (v := 3) hx hb dL_law_219 (by decide) ?_
  refine lv_iadd hx hb dL_law_220 ?_
  refine va_sld hx hb hX hbl hbA hS (by rw [show (3 : Int32) = nI 3 from rfl, nI_add]; exact vp_in_nI (by omega) (by omega)) dL_law_221 ?_
  have hPc := hP.sub (ws' := (wM cI cJ cZ b kd vl lo hi nd so fr tg gm nr kp ah kx st mp ma fa op nx)) [0, 1, 2, 3, 4, 5, 6, 7, 8, 9, 10, 11, 12, 13] rfl
  have hDc := hD.sub (ws' := (wM cI cJ cZ b kd vl lo hi nd so fr tg gm nr kp ah kx st mp ma fa op nx)) [0, 1, 2, 3, 4, 5, 6, 7, 8, 9, 10, 11, 12, 13] (by decide) rfl
  have hFc := va_free (wc := (wM cI cJ cZ b kd vl lo hi nd so fr tg gm nr kp ah kx st mp ma fa op nx)) hD hS hA [0, 1, 2, 3, 4, 5, 6, 7, 8, 9, 10, 11, 12, 13] rfl
  refine va_calli (va_runV (As := [.int (xs ((nI i) + (1 : Int32)).toNatClampNeg), .int (xs ((nI i) + (2 : Int32)).toNatClampNeg), .int (xs ((nI i) + (3 : Int32)).toNatClampNeg)]) (rest := [.int r_1]) ⟨hx, hb, hml, hown, hts⟩ (c_X3_rod l dC dI cI cJ cZ b kd vl lo hi nd so fr tg gm nr kp ah kx st mp ma fa op nx (xs ((nI i) + (1 : Int32)).toNatClampNeg) (xs ((nI i) + (2 : Int32)).toNatClampNeg) (xs ((nI i) + (3 : Int32)).toNatClampNeg) hRS.1 hRS.2.1 H.size) (cwV 3 hts gL_law_X3_rod rfl rfl rfl (by decide +kernel) ⟨Nat.le_of_ble_eq_true rfl, Nat.le_of_ble_eq_true rfl⟩) (fb_m hK hPc hDc (va_recv hK hPc (ci := 2) (q0 := 0) rfl rfl)) rfl rfl hl.1 rfl (lv_room (Nat.le_of_ble_eq_true rfl)) dL_law_222 ⟨Nat.le_of_ble_eq_true rfl, Nat.le_of_ble_eq_true rfl⟩) hS (fun q _ h => hFc q h) hFc (fun r_2 u t H1 locs ht hvm hw_2 hB hz1 hk1 hS => ?_)
  obtain ⟨kd_2, vl_2, lo_2, hi_2, nd_2, so_2, fr_2, tg_2, gm_2, nr_2, kp_2, ah_2, kx_2, st_2, mp_2, ma_2, fa_2, op_2, nx_2⟩ := u
  obtain ⟨hP1, hK1, hD1⟩ := hB
  rw [ht] at hP1
  obtain ⟨hP, hD⟩ := va_join (wr := (wX cI cJ cZ a kd_1 lo_1 hi_1 vl_1 nd_1 so_1 fr_1 tg_1 gn_1 nr_1 mo_1 ma_1 fa_1 sv_1 sd_1 se_1 sh_1)) (w1 := (wM cI cJ cZ b kd_2 vl_2 lo_2 hi_2 nd_2 so_2 fr_2 tg_2 gm_2 nr_2 kp_2 ah_2 kx_2 st_2 mp_2 ma_2 fa_2 op_2 nx_2)) hP hD [0, 1, 2, 3, 4, 5, 6, 7, 8, 9, 10, 11, 12, 13] [14, 15, 16, 17, 18, 19, 20, 21, 22, 23, 24, 25] rfl rfl (by decide) (by decide) hk1 hFc hP1 hD1
  generalize H1 = H at hP hS ⊢
  have hP : va_P (dC, dI) vwCl ((wX cI cJ cZ a kd_1 lo_1 hi_1 vl_1 nd_1 so_1 fr_1 tg_1 gn_1 nr_1 mo_1 ma_1 fa_1 sv_1 sd_1 se_1 sh_1) ++ (wM cI cJ cZ b kd_2 vl_2 lo_2 hi_2 nd_2 so_2 fr_2 tg_2 gm_2 nr_2 kp_2 ah_2 kx_2 st_2 mp_2 ma_2 fa_2 op_2 nx_2)) H := hP
  have hD : va_D (fun q : Nat => s.heap.size ≤ q) ((wX cI cJ cZ a kd_1 lo_1 hi_1 vl_1 nd_1 so_1 fr_1 tg_1 gn_1 nr_1 mo_1 ma_1 fa_1 sv_1 sd_1 se_1 sh_1) ++ (wM cI cJ cZ b kd_2 vl_2 lo_2 hi_2 nd_2 so_2 fr_2 tg_2 gm_2 nr_2 kp_2 ah_2 kx_2 st_2 mp_2 ma_2 fa_2 op_2 nx_2)) := hD
  have hpo : Post (r_1, kd_1, lo_1, hi_1, vl_1, nd_1, so_1, fr_1, tg_1, gn_1, nr_1, mo_1, ma_1, fa_1, sv_1, sd_1, se_1, sh_1) (r_2, kd_2, vl_2, lo_2, hi_2, nd_2, so_2, fr_2, tg_2, gm_2, nr_2, kp_2, ah_2, kx_2, st_2, mp_2, ma_2, fa_2, op_2, nx_2) := by rw [hw_1, hw_2]; exact op_rod hRS hRK
  obtain ⟨rfl, rfl, rfl, rfl, rfl, rfl, rfl, rfl, rfl, rfl, rfl, rfl, hRS, hRK⟩ := hpo
  refine lv_icmp_eq (tgt := 472) hx hb dL_law_225 (by decide) (fun c_1 => ?_) (fun c_1 => ?_)
  · skip
    refine lv_iinc (v := ((nI i) + 6)) (lv' := [(3, .int ((nI i) + 6)), (2, .ref (b 0)), (1, .ref (a 0)), (0, .ref sb)]) hx hb dL_law_472 hl (k := 0) rfl rfl (by decide) rfl (fun ls hl => ?_)
    refine lv_goto (tgt := 18) hx hb dL_law_475 (by decide) ?_
    exact hnext _ kd_1 lo_1 hi_1 vl_1 nd_1 so_1 fr_1 tg_1 gn_1 nr_1 mo_1 ma_1 fa_1 sv_1 sd_1 se_1 sh_1 gm_2 kp_2 ah_2 kx_2 st_2 mp_2 op_2 nx_2 H locs ls (show nI i + 6 = nI (i + 6) from nI_add i 6) hRS hRK hP hD hS (lv_sub hl [0, 1, 2, 3] rfl)
  · skip
    exact absurd rfl c_1
set_option maxHeartbeats 4000000 in
set_option maxRecDepth 100000 in
theorem law_set {p : Program} {l : Launch} {e : Env} {s : State} {m : MethodId} {below : List Frame} {meth : Method} {c : Code} {dC : Nat → ClassId} {dI : Nat → Nat → Nat} {cI cJ cZ : ClassId} {sb L : Nat} {xs : Nat → Int32} {a b : Nat → Nat} (kd : Nat → Int32) (lo : Nat → Int64) (hi : Nat → Int64) (vl : Nat → Int64) (nd : Int32) (so : Nat → Int32) (fr : Nat → Int32) (tg : Nat → Int32) (gn : Nat → Int32) (nr : Int32) (mo : Int32) (ma : Int32) (fa : Int32) (sv : Nat → Int64) (sd : Nat → Int32) (se : Int32) (sh : Int32) (gm : Nat → Int32) (kp : Nat → Int64) (ah : Nat → Int64) (kx : Nat → Int32) (st : Int32) (mp : Int32) (op : Nat → Int32) (nx : Nat → Int32) (i : Nat) (H : Heap) (locs : List Loc) (ls : Array Slot) (hL : L ≤ 3072) (hlt : i + 6 ≤ L) (C0 : lw_At p s m meth c sb L xs) (hK : va_K (dC, dI) vwCl (tA cI cJ cZ) s) (hRS : RelS kd lo hi vl nd so fr tg nr) (hRK : RelK kd nd sv sd se sh kp kx st) (hP : va_P (dC, dI) vwCl ((wX cI cJ cZ a kd lo hi vl nd so fr tg gn nr mo ma fa sv sd se sh) ++ (wM cI cJ cZ b kd vl lo hi nd so fr tg gm nr kp ah kx st mp ma fa op nx)) H) (hD : va_D (fun q : Nat => s.heap.size ≤ q) ((wX cI cJ cZ a kd lo hi vl nd so fr tg gn nr mo ma fa sv sd se sh) ++ (wM cI cJ cZ b kd vl lo hi nd so fr tg gm nr kp ah kx st mp ma fa op nx))) (hS : va_S (fun q : Nat => s.heap.size ≤ q) s.heap H locs) (hl : lv_has ls 4 [(3, .int (nI i)), (2, .ref (b 0)), (1, .ref (a 0)), (0, .ref sb)]) (hnext : ∀ (x3 : Int32) (kd : Nat → Int32) (lo : Nat → Int64) (hi : Nat → Int64) (vl : Nat → Int64) (nd : Int32) (so : Nat → Int32) (fr : Nat → Int32) (tg : Nat → Int32) (gn : Nat → Int32) (nr : Int32) (mo : Int32) (ma : Int32) (fa : Int32) (sv : Nat → Int64) (sd : Nat → Int32) (se : Int32) (sh : Int32) (gm : Nat → Int32) (kp : Nat → Int64) (ah : Nat → Int64) (kx : Nat → Int32) (st : Int32) (mp : Int32) (op : Nat → Int32) (nx : Nat → Int32) (H : Heap) (locs : List Loc) (ls : Array Slot), x3 = nI (i + 6) → RelS kd lo hi vl nd so fr tg nr → RelK kd nd sv sd se sh kp kx st → va_P (dC, dI) vwCl ((wX cI cJ cZ a kd lo hi vl nd so fr tg gn nr mo ma fa sv sd se sh) ++ (wM cI cJ cZ b kd vl lo hi nd so fr tg gm nr kp ah kx st mp ma fa op nx)) H → va_D (fun q : Nat => s.heap.size ≤ q) ((wX cI cJ cZ a kd lo hi vl nd so fr tg gn nr mo ma fa sv sd se sh) ++ (wM cI cJ cZ b kd vl lo hi nd so fr tg gm nr kp ah kx st mp ma fa op nx)) → va_S (fun q : Nat => s.heap.size ≤ q) s.heap H locs → lv_has ls 4 [(3, .int x3), (2, .ref (b 0)), (1, .ref (a 0)), (0, .ref sb)] → W p l e room_1 s m #[Value.ref sb] below meth c H locs 26 629 (lw_Z below #[Value.ref sb] s) (F0 m 18 ls [])) : W p l e room_1 s m #[Value.ref sb] below meth c H locs 26 629 (lw_Z below #[Value.ref sb] s) (F0 m 230 ls []) := by
  obtain ⟨hx, hb, hr, hml, hown, hts, hX, hbl, hlocks, hgv⟩ := C0
  have hts : ∀ w ∈ wsL_law, w.before #[Value.ref sb] s = true := fun w h => hts w (wsL_law_in w h)
  have hown : s.vm.findClass RL = some m.cls := hown
  have hb : c.code = cL_law := hb
  have hA : ∀ q : Nat, s.heap.size ≤ q → (fun q : Nat => s.heap.size ≤ q) q := fun _ h => h
  have hbA : ¬ (fun q : Nat => s.heap.size ≤ q) sb := Nat.not_le.mpr hbl
  have k_0 := hts (.constantLong RL 13 (4294967295)) (by decide +kernel)
  refine lv_aload_n hx hb dL_law_230 rfl (lv_at hl 2 rfl) ?_
  refine lv_aload_n hx hb dL_law_231 rfl (lv_at hl 3 rfl) ?_
  refine lv_iload_n hx hb dL_law_232 rfl (lv_at hl 0 rfl) ?_
  refine lv_iconst (v := 1) hx hb dL_law_233 (by decide) ?_
  refine lv_iadd hx hb dL_law_234 ?_
  refine va_sld hx hb hX hbl hbA hS (by rw [show (1 : Int32) = nI 1 from rfl, nI_add]; exact vp_in_nI (by omega) (by omega)) dL_law_235 ?_
  refine lv_aload_n hx hb dL_law_236 rfl (lv_at hl 3 rfl) ?_
  refine lv_iload_n hx hb dL_law_237 rfl (lv_at hl 0 rfl) ?_
  refine lv_iconst (v := 2) hx hb dL_law_238 (by decide) ?_
  refine lv_iadd hx hb dL_law_239 ?_
  refine va_sld hx hb hX hbl hbA hS (by rw [show (2 : Int32) = nI 2 from rfl, nI_add]; exact vp_in_nI (by omega) (by omega)) dL_law_240 ?_
  refine lv_i2l hx hb dL_law_241 rfl ?_
  refine lv_bipush (v := 32) hx hb dL_law_242 (by decide) ?_
  refine lv_lshl hx hb dL_law_244 rfl ?_
  refine lv_aload_n hx hb dL_law_245 rfl (lv_at hl 3 rfl) ?_
  refine lv_iload_n hx hb dL_law_246 rfl (lv_at hl 0 rfl) ?_
  refine lv_iconst (v := 3) hx hb dL_law_247 (by decide) ?_
  refine lv_iadd hx hb dL_law_248 ?_
  refine va_sld hx hb hX hbl hbA hS (by rw [show (3 : Int32) = nI 3 from rfl, nI_add]; exact vp_in_nI (by omega) (by omega)) dL_law_249 ?_
  refine lv_i2l hx hb dL_law_250 rfl ?_
  refine lv_ldc2 hx hb hown k_0 dL_law_251 ?_
  refine lv_land hx hb dL_law_254 ?_
  refine lv_lor hx hb dL_law_255 ?_
  have hPc := hP.sub (ws' := (wX cI cJ cZ a kd lo hi vl nd so fr tg gn nr mo ma fa sv sd se sh)) [0, 1, 2, 3, 4, 5, 6, 7, 8, 9, 10, 11] rfl
  have hDc := hD.sub (ws' := (wX cI cJ cZ a kd lo hi vl nd so fr tg gn nr mo ma fa sv sd se sh)) [0, 1, 2, 3, 4, 5, 6, 7, 8, 9, 10, 11] (by decide) rfl
  have hFc := va_free (wc := (wX cI cJ cZ a kd lo hi vl nd so fr tg gn nr mo ma fa sv sd se sh)) hD hS hA [0, 1, 2, 3, 4, 5, 6, 7, 8, 9, 10, 11] rfl
  refine va_calli (va_runV (As := [.int (xs ((nI i) + (1 : Int32)).toNatClampNeg), .long (((xs ((nI i) + (2 : Int32)).toNatClampNeg).toInt64 <<< ((32 : Int32).toInt64 &&& 63)) ||| ((xs ((nI i) + (3 : Int32)).toNatClampNeg).toInt64 &&& (4294967295 : Int64)))]) (rest := []) ⟨hx, hb, hml, hown, hts⟩ (c_X2_set l dC dI cI cJ cZ a kd lo hi vl nd so fr tg gn nr mo ma fa sv sd se sh (xs ((nI i) + (1 : Int32)).toNatClampNeg) (((xs ((nI i) + (2 : Int32)).toNatClampNeg).toInt64 <<< ((32 : Int32).toInt64 &&& 63)) ||| ((xs ((nI i) + (3 : Int32)).toNatClampNeg).toInt64 &&& (4294967295 : Int64))) hRK.1 hRS.1 hRS.2.1 hRS.2.2.1 H.size) (cwV 2 hts gL_law_X2_set rfl rfl rfl (by decide +kernel) ⟨Nat.le_of_ble_eq_true rfl, Nat.le_of_ble_eq_true rfl⟩) (fb_m hK hPc hDc (va_recv hK hPc (ci := 1) (q0 := 0) rfl rfl)) rfl rfl hl.1 rfl (lv_room (Nat.le_of_ble_eq_true rfl)) dL_law_256 ⟨Nat.le_of_ble_eq_true rfl, Nat.le_of_ble_eq_true rfl⟩) hS (fun q _ h => hFc q h) hFc (fun r_1 u t H1 locs ht hvm hw_1 hB hz1 hk1 hS => ?_)
  obtain ⟨kd_1, lo_1, hi_1, vl_1, nd_1, so_1, fr_1, tg_1, gn_1, nr_1, mo_1, ma_1, fa_1, sv_1, sd_1, se_1, sh_1⟩ := u
  obtain ⟨hP1, hK1, hD1⟩ := hB
  rw [ht] at hP1
  obtain ⟨hP, hD⟩ := va_join (wr := (wM cI cJ cZ b kd vl lo hi nd so fr tg gm nr kp ah kx st mp ma fa op nx)) (w1 := (wX cI cJ cZ a kd_1 lo_1 hi_1 vl_1 nd_1 so_1 fr_1 tg_1 gn_1 nr_1 mo_1 ma_1 fa_1 sv_1 sd_1 se_1 sh_1)) hP hD [0, 1, 2, 3, 4, 5, 6, 7, 8, 9, 10, 11] [12, 13, 14, 15, 16, 17, 18, 19, 20, 21, 22, 23, 24, 25] rfl rfl (by decide) (by decide) hk1 hFc hP1 hD1
  generalize H1 = H at hP hS ⊢
  have hP : va_P (dC, dI) vwCl ((wM cI cJ cZ b kd vl lo hi nd so fr tg gm nr kp ah kx st mp ma fa op nx) ++ (wX cI cJ cZ a kd_1 lo_1 hi_1 vl_1 nd_1 so_1 fr_1 tg_1 gn_1 nr_1 mo_1 ma_1 fa_1 sv_1 sd_1 se_1 sh_1)) H := hP
  have hD : va_D (fun q : Nat => s.heap.size ≤ q) ((wM cI cJ cZ b kd vl lo hi nd so fr tg gm nr kp ah kx st mp ma fa op nx) ++ (wX cI cJ cZ a kd_1 lo_1 hi_1 vl_1 nd_1 so_1 fr_1 tg_1 gn_1 nr_1 mo_1 ma_1 fa_1 sv_1 sd_1 se_1 sh_1)) := hD
  refine lv_aload_n hx hb dL_law_259 rfl (lv_at hl 1 rfl) ?_
  refine lv_aload_n hx hb dL_law_260 rfl (lv_at hl 3 rfl) ?_
  refine lv_iload_n hx hb dL_law_261 rfl (lv_at hl 0 rfl) ?_
  refine lv_iconst (v := 1) hx hb dL_law_262 (by decide) ?_
  refine lv_iadd hx hb dL_law_263 ?_
  refine va_sld hx hb hX hbl hbA hS (by rw [show (1 : Int32) = nI 1 from rfl, nI_add]; exact vp_in_nI (by omega) (by omega)) dL_law_264 ?_
  refine lv_aload_n hx hb dL_law_265 rfl (lv_at hl 3 rfl) ?_
  refine lv_iload_n hx hb dL_law_266 rfl (lv_at hl 0 rfl) ?_
  refine lv_iconst (v := 2) hx hb dL_law_267 (by decide) ?_
  refine lv_iadd hx hb dL_law_268 ?_
  refine va_sld hx hb hX hbl hbA hS (by rw [show (2 : Int32) = nI 2 from rfl, nI_add]; exact vp_in_nI (by omega) (by omega)) dL_law_269 ?_
  refine lv_i2l hx hb dL_law_270 rfl ?_
  refine lv_bipush (v := 32) hx hb dL_law_271 (by decide) ?_
  refine lv_lshl hx hb dL_law_273 rfl ?_
  refine lv_aload_n hx hb dL_law_274 rfl (lv_at hl 3 rfl) ?_
  refine lv_iload_n hx hb dL_law_275 rfl (lv_at hl 0 rfl) ?_
  refine lv_iconst (v := 3) hx hb dL_law_276 (by decide) ?_
  refine lv_iadd hx hb dL_law_277 ?_
  refine va_sld hx hb hX hbl hbA hS (by rw [show (3 : Int32) = nI 3 from rfl, nI_add]; exact vp_in_nI (by omega) (by omega)) dL_law_278 ?_
  refine lv_i2l hx hb dL_law_279 rfl ?_
  refine lv_ldc2 hx hb hown k_0 dL_law_280 ?_
  refine lv_land hx hb dL_law_283 ?_
  refine lv_lor hx hb dL_law_284 ?_
  have hPc := hP.sub (ws' := (wM cI cJ cZ b kd vl lo hi nd so fr tg gm nr kp ah kx st mp ma fa op nx)) [0, 1, 2, 3, 4, 5, 6, 7, 8, 9, 10, 11, 12, 13] rfl
  have hDc := hD.sub (ws' := (wM cI cJ cZ b kd vl lo hi nd so fr tg gm nr kp ah kx st mp ma fa op nx)) [0, 1, 2, 3, 4, 5, 6, 7, 8, 9, 10, 11, 12, 13] (by decide) rfl
  have hFc := va_free (wc := (wM cI cJ cZ b kd vl lo hi nd so fr tg gm nr kp ah kx st mp ma fa op nx)) hD hS hA [0, 1, 2, 3, 4, 5, 6, 7, 8, 9, 10, 11, 12, 13] rfl
  refine va_calli (va_runV (As := [.int (xs ((nI i) + (1 : Int32)).toNatClampNeg), .long (((xs ((nI i) + (2 : Int32)).toNatClampNeg).toInt64 <<< ((32 : Int32).toInt64 &&& 63)) ||| ((xs ((nI i) + (3 : Int32)).toNatClampNeg).toInt64 &&& (4294967295 : Int64)))]) (rest := [.int r_1]) ⟨hx, hb, hml, hown, hts⟩ (c_X3_set l dC dI cI cJ cZ b kd vl lo hi nd so fr tg gm nr kp ah kx st mp ma fa op nx (xs ((nI i) + (1 : Int32)).toNatClampNeg) (((xs ((nI i) + (2 : Int32)).toNatClampNeg).toInt64 <<< ((32 : Int32).toInt64 &&& 63)) ||| ((xs ((nI i) + (3 : Int32)).toNatClampNeg).toInt64 &&& (4294967295 : Int64))) hRS.2.1 hRS.2.2.1 (st_ok hRK) hRS.1 H.size) (cwV 2 hts gL_law_X3_set rfl rfl rfl (by decide +kernel) ⟨Nat.le_of_ble_eq_true rfl, Nat.le_of_ble_eq_true rfl⟩) (fb_m hK hPc hDc (va_recv hK hPc (ci := 2) (q0 := 0) rfl rfl)) rfl rfl hl.1 rfl (lv_room (Nat.le_of_ble_eq_true rfl)) dL_law_285 ⟨Nat.le_of_ble_eq_true rfl, Nat.le_of_ble_eq_true rfl⟩) hS (fun q _ h => hFc q h) hFc (fun r_2 u t H1 locs ht hvm hw_2 hB hz1 hk1 hS => ?_)
  obtain ⟨kd_2, vl_2, lo_2, hi_2, nd_2, so_2, fr_2, tg_2, gm_2, nr_2, kp_2, ah_2, kx_2, st_2, mp_2, ma_2, fa_2, op_2, nx_2⟩ := u
  obtain ⟨hP1, hK1, hD1⟩ := hB
  rw [ht] at hP1
  obtain ⟨hP, hD⟩ := va_join (wr := (wX cI cJ cZ a kd_1 lo_1 hi_1 vl_1 nd_1 so_1 fr_1 tg_1 gn_1 nr_1 mo_1 ma_1 fa_1 sv_1 sd_1 se_1 sh_1)) (w1 := (wM cI cJ cZ b kd_2 vl_2 lo_2 hi_2 nd_2 so_2 fr_2 tg_2 gm_2 nr_2 kp_2 ah_2 kx_2 st_2 mp_2 ma_2 fa_2 op_2 nx_2)) hP hD [0, 1, 2, 3, 4, 5, 6, 7, 8, 9, 10, 11, 12, 13] [14, 15, 16, 17, 18, 19, 20, 21, 22, 23, 24, 25] rfl rfl (by decide) (by decide) hk1 hFc hP1 hD1
  generalize H1 = H at hP hS ⊢
  have hP : va_P (dC, dI) vwCl ((wX cI cJ cZ a kd_1 lo_1 hi_1 vl_1 nd_1 so_1 fr_1 tg_1 gn_1 nr_1 mo_1 ma_1 fa_1 sv_1 sd_1 se_1 sh_1) ++ (wM cI cJ cZ b kd_2 vl_2 lo_2 hi_2 nd_2 so_2 fr_2 tg_2 gm_2 nr_2 kp_2 ah_2 kx_2 st_2 mp_2 ma_2 fa_2 op_2 nx_2)) H := hP
  have hD : va_D (fun q : Nat => s.heap.size ≤ q) ((wX cI cJ cZ a kd_1 lo_1 hi_1 vl_1 nd_1 so_1 fr_1 tg_1 gn_1 nr_1 mo_1 ma_1 fa_1 sv_1 sd_1 se_1 sh_1) ++ (wM cI cJ cZ b kd_2 vl_2 lo_2 hi_2 nd_2 so_2 fr_2 tg_2 gm_2 nr_2 kp_2 ah_2 kx_2 st_2 mp_2 ma_2 fa_2 op_2 nx_2)) := hD
  obtain ⟨op9, nx9, hw_2⟩ := hw_2
  have hpo : Post (r_1, kd_1, lo_1, hi_1, vl_1, nd_1, so_1, fr_1, tg_1, gn_1, nr_1, mo_1, ma_1, fa_1, sv_1, sd_1, se_1, sh_1) (r_2, kd_2, vl_2, lo_2, hi_2, nd_2, so_2, fr_2, tg_2, gm_2, nr_2, kp_2, ah_2, kx_2, st_2, mp_2, ma_2, fa_2, op_2, nx_2) := by rw [hw_1, hw_2]; exact op_set hRS hRK
  obtain ⟨rfl, rfl, rfl, rfl, rfl, rfl, rfl, rfl, rfl, rfl, rfl, rfl, hRS, hRK⟩ := hpo
  refine lv_icmp_eq (tgt := 472) hx hb dL_law_288 (by decide) (fun c_1 => ?_) (fun c_1 => ?_)
  · skip
    refine lv_iinc (v := ((nI i) + 6)) (lv' := [(3, .int ((nI i) + 6)), (2, .ref (b 0)), (1, .ref (a 0)), (0, .ref sb)]) hx hb dL_law_472 hl (k := 0) rfl rfl (by decide) rfl (fun ls hl => ?_)
    refine lv_goto (tgt := 18) hx hb dL_law_475 (by decide) ?_
    exact hnext _ kd_1 lo_1 hi_1 vl_1 nd_1 so_1 fr_1 tg_1 gn_1 nr_1 mo_1 ma_1 fa_1 sv_1 sd_1 se_1 sh_1 gm_2 kp_2 ah_2 kx_2 st_2 mp_2 op_2 nx_2 H locs ls (show nI i + 6 = nI (i + 6) from nI_add i 6) hRS hRK hP hD hS (lv_sub hl [0, 1, 2, 3] rfl)
  · skip
    exact absurd rfl c_1
