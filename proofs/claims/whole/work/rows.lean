section
-- ===== PART A: goes FIRST, ahead of the names: the tables' words, and 'selects' of the private methods out of them =====
/-- a private method of a class that the tables say can be made, by its rows of tables_1 -/
def lw_okq (q : MethodName × Nat) : Prop := (q.1.cls ≠ "java/lang/invoke/MethodHandle" ∧ q.1.cls ≠ "java/lang/invoke/VarHandle") ∧ Cond.instantiable q.1.cls q.2 ∈ tables_1 ∧ Cond.privateMethod q.1 ∈ tables_1 ∧ Cond.instanceMethod q.1 ∈ tables_1
theorem lw_p0 : lw_okq (⟨"DetentCabinet", "faultOfDial", "(IJJ)I"⟩, 14) := ⟨⟨by decide +kernel, by decide +kernel⟩, List.mem_of_getElem? (i := 8) (by decide +kernel), List.mem_of_getElem? (i := 85) (by decide +kernel), List.mem_of_getElem? (i := 86) (by decide +kernel)⟩
theorem lw_p1 : lw_okq (⟨"DetentCabinet", "faultOfRod", "(III)I"⟩, 14) := ⟨⟨by decide +kernel, by decide +kernel⟩, List.mem_of_getElem? (i := 8) (by decide +kernel), List.mem_of_getElem? (i := 123) (by decide +kernel), List.mem_of_getElem? (i := 124) (by decide +kernel)⟩
theorem lw_p2 : lw_okq (⟨"DetentCabinet", "isDial", "(I)Z"⟩, 14) := ⟨⟨by decide +kernel, by decide +kernel⟩, List.mem_of_getElem? (i := 8) (by decide +kernel), List.mem_of_getElem? (i := 130) (by decide +kernel), List.mem_of_getElem? (i := 131) (by decide +kernel)⟩
theorem lw_p3 : lw_okq (⟨"DetentCabinet", "faultOfPair", "(III)I"⟩, 14) := ⟨⟨by decide +kernel, by decide +kernel⟩, List.mem_of_getElem? (i := 8) (by decide +kernel), List.mem_of_getElem? (i := 134) (by decide +kernel), List.mem_of_getElem? (i := 135) (by decide +kernel)⟩
theorem lw_p4 : lw_okq (⟨"DetentCabinet", "faultOfSet", "(IJ)I"⟩, 14) := ⟨⟨by decide +kernel, by decide +kernel⟩, List.mem_of_getElem? (i := 8) (by decide +kernel), List.mem_of_getElem? (i := 143) (by decide +kernel), List.mem_of_getElem? (i := 144) (by decide +kernel)⟩
theorem lw_p5 : lw_okq (⟨"DetentCabinet", "movesWhenGiven", "(IJ)I"⟩, 14) := ⟨⟨by decide +kernel, by decide +kernel⟩, List.mem_of_getElem? (i := 8) (by decide +kernel), List.mem_of_getElem? (i := 147) (by decide +kernel), List.mem_of_getElem? (i := 148) (by decide +kernel)⟩
theorem lw_p6 : lw_okq (⟨"DetentCabinet", "gets", "(IJI)V"⟩, 14) := ⟨⟨by decide +kernel, by decide +kernel⟩, List.mem_of_getElem? (i := 8) (by decide +kernel), List.mem_of_getElem? (i := 151) (by decide +kernel), List.mem_of_getElem? (i := 152) (by decide +kernel)⟩
theorem lw_p7 : lw_okq (⟨"DetentCabinet", "move", "(IJ)V"⟩, 14) := ⟨⟨by decide +kernel, by decide +kernel⟩, List.mem_of_getElem? (i := 8) (by decide +kernel), List.mem_of_getElem? (i := 155) (by decide +kernel), List.mem_of_getElem? (i := 156) (by decide +kernel)⟩
theorem lw_p8 : lw_okq (⟨"DetentCabinet", "gift", "(III)J"⟩, 14) := ⟨⟨by decide +kernel, by decide +kernel⟩, List.mem_of_getElem? (i := 8) (by decide +kernel), List.mem_of_getElem? (i := 166) (by decide +kernel), List.mem_of_getElem? (i := 167) (by decide +kernel)⟩
theorem lw_p9 : lw_okq (⟨"DetentCabinet", "faultOfTurn", "(II)I"⟩, 14) := ⟨⟨by decide +kernel, by decide +kernel⟩, List.mem_of_getElem? (i := 8) (by decide +kernel), List.mem_of_getElem? (i := 189) (by decide +kernel), List.mem_of_getElem? (i := 190) (by decide +kernel)⟩
theorem lw_p10 : lw_okq (⟨"DetentCabinet", "faultOfTake", "(III)I"⟩, 14) := ⟨⟨by decide +kernel, by decide +kernel⟩, List.mem_of_getElem? (i := 8) (by decide +kernel), List.mem_of_getElem? (i := 216) (by decide +kernel), List.mem_of_getElem? (i := 217) (by decide +kernel)⟩
theorem lw_p11 : lw_okq (⟨"DetentCabinet", "faultOfOrder", "(II)I"⟩, 14) := ⟨⟨by decide +kernel, by decide +kernel⟩, List.mem_of_getElem? (i := 8) (by decide +kernel), List.mem_of_getElem? (i := 236) (by decide +kernel), List.mem_of_getElem? (i := 237) (by decide +kernel)⟩
theorem lw_p12 : lw_okq (⟨"DetentCabinetModel", "refused", "(I)I"⟩, 19) := ⟨⟨by decide +kernel, by decide +kernel⟩, List.mem_of_getElem? (i := 248) (by decide +kernel), List.mem_of_getElem? (i := 316) (by decide +kernel), List.mem_of_getElem? (i := 317) (by decide +kernel)⟩
theorem lw_p13 : lw_okq (⟨"DetentCabinetModel", "isNumber", "(IJ)Z"⟩, 19) := ⟨⟨by decide +kernel, by decide +kernel⟩, List.mem_of_getElem? (i := 248) (by decide +kernel), List.mem_of_getElem? (i := 320) (by decide +kernel), List.mem_of_getElem? (i := 321) (by decide +kernel)⟩
theorem lw_p14 : lw_okq (⟨"DetentCabinetModel", "isInt", "(J)Z"⟩, 19) := ⟨⟨by decide +kernel, by decide +kernel⟩, List.mem_of_getElem? (i := 248) (by decide +kernel), List.mem_of_getElem? (i := 326) (by decide +kernel), List.mem_of_getElem? (i := 327) (by decide +kernel)⟩
theorem lw_p15 : lw_okq (⟨"DetentCabinetModel", "isAbove", "(IJJ)Z"⟩, 19) := ⟨⟨by decide +kernel, by decide +kernel⟩, List.mem_of_getElem? (i := 248) (by decide +kernel), List.mem_of_getElem? (i := 333) (by decide +kernel), List.mem_of_getElem? (i := 334) (by decide +kernel)⟩
def lw_privs_1 : List (MethodName × Nat) := [(⟨"DetentCabinet", "faultOfDial", "(IJJ)I"⟩, 14), (⟨"DetentCabinet", "faultOfRod", "(III)I"⟩, 14), (⟨"DetentCabinet", "isDial", "(I)Z"⟩, 14), (⟨"DetentCabinet", "faultOfPair", "(III)I"⟩, 14), (⟨"DetentCabinet", "faultOfSet", "(IJ)I"⟩, 14), (⟨"DetentCabinet", "movesWhenGiven", "(IJ)I"⟩, 14), (⟨"DetentCabinet", "gets", "(IJI)V"⟩, 14), (⟨"DetentCabinet", "move", "(IJ)V"⟩, 14), (⟨"DetentCabinet", "gift", "(III)J"⟩, 14), (⟨"DetentCabinet", "faultOfTurn", "(II)I"⟩, 14), (⟨"DetentCabinet", "faultOfTake", "(III)I"⟩, 14), (⟨"DetentCabinet", "faultOfOrder", "(II)I"⟩, 14), (⟨"DetentCabinetModel", "refused", "(I)I"⟩, 19), (⟨"DetentCabinetModel", "isNumber", "(IJ)Z"⟩, 19), (⟨"DetentCabinetModel", "isInt", "(J)Z"⟩, 19), (⟨"DetentCabinetModel", "isAbove", "(IJJ)Z"⟩, 19)]
theorem lw_r1 : ∀ q ∈ lw_privs_1, lw_okq q := List.forall_mem_cons.mpr ⟨lw_p0, List.forall_mem_cons.mpr ⟨lw_p1, List.forall_mem_cons.mpr ⟨lw_p2, List.forall_mem_cons.mpr ⟨lw_p3, List.forall_mem_cons.mpr ⟨lw_p4, List.forall_mem_cons.mpr ⟨lw_p5, List.forall_mem_cons.mpr ⟨lw_p6, List.forall_mem_cons.mpr ⟨lw_p7, List.forall_mem_cons.mpr ⟨lw_p8, List.forall_mem_cons.mpr ⟨lw_p9, List.forall_mem_cons.mpr ⟨lw_p10, List.forall_mem_cons.mpr ⟨lw_p11, List.forall_mem_cons.mpr ⟨lw_p12, List.forall_mem_cons.mpr ⟨lw_p13, List.forall_mem_cons.mpr ⟨lw_p14, List.forall_mem_cons.mpr ⟨lw_p15, fun _ h => absurd h List.not_mem_nil⟩⟩⟩⟩⟩⟩⟩⟩⟩⟩⟩⟩⟩⟩⟩⟩
theorem lw_p16 : lw_okq (⟨"DetentCabinetModel", "rank", "(IJ)J"⟩, 19) := ⟨⟨by decide +kernel, by decide +kernel⟩, List.mem_of_getElem? (i := 248) (by decide +kernel), List.mem_of_getElem? (i := 337) (by decide +kernel), List.mem_of_getElem? (i := 338) (by decide +kernel)⟩
theorem lw_p17 : lw_okq (⟨"DetentCabinetModel", "isReal", "(I)Z"⟩, 19) := ⟨⟨by decide +kernel, by decide +kernel⟩, List.mem_of_getElem? (i := 248) (by decide +kernel), List.mem_of_getElem? (i := 341) (by decide +kernel), List.mem_of_getElem? (i := 342) (by decide +kernel)⟩
theorem lw_p18 : lw_okq (⟨"DetentCabinetModel", "fitted", "(IJ)J"⟩, 19) := ⟨⟨by decide +kernel, by decide +kernel⟩, List.mem_of_getElem? (i := 248) (by decide +kernel), List.mem_of_getElem? (i := 345) (by decide +kernel), List.mem_of_getElem? (i := 346) (by decide +kernel)⟩
theorem lw_p19 : lw_okq (⟨"DetentCabinetModel", "less", "(IJJ)J"⟩, 19) := ⟨⟨by decide +kernel, by decide +kernel⟩, List.mem_of_getElem? (i := 248) (by decide +kernel), List.mem_of_getElem? (i := 349) (by decide +kernel), List.mem_of_getElem? (i := 350) (by decide +kernel)⟩
theorem lw_p20 : lw_okq (⟨"DetentCabinetModel", "greater", "(IJJ)J"⟩, 19) := ⟨⟨by decide +kernel, by decide +kernel⟩, List.mem_of_getElem? (i := 248) (by decide +kernel), List.mem_of_getElem? (i := 353) (by decide +kernel), List.mem_of_getElem? (i := 354) (by decide +kernel)⟩
theorem lw_p21 : lw_okq (⟨"DetentCabinetModel", "isDial", "(I)Z"⟩, 19) := ⟨⟨by decide +kernel, by decide +kernel⟩, List.mem_of_getElem? (i := 248) (by decide +kernel), List.mem_of_getElem? (i := 361) (by decide +kernel), List.mem_of_getElem? (i := 362) (by decide +kernel)⟩
theorem lw_p22 : lw_okq (⟨"DetentCabinetModel", "reason", "(III)I"⟩, 19) := ⟨⟨by decide +kernel, by decide +kernel⟩, List.mem_of_getElem? (i := 248) (by decide +kernel), List.mem_of_getElem? (i := 365) (by decide +kernel), List.mem_of_getElem? (i := 366) (by decide +kernel)⟩
theorem lw_p23 : lw_okq (⟨"DetentCabinetModel", "call", "(IJ)I"⟩, 19) := ⟨⟨by decide +kernel, by decide +kernel⟩, List.mem_of_getElem? (i := 248) (by decide +kernel), List.mem_of_getElem? (i := 373) (by decide +kernel), List.mem_of_getElem? (i := 374) (by decide +kernel)⟩
theorem lw_p24 : lw_okq (⟨"DetentCabinetModel", "gets", "(IJ)V"⟩, 19) := ⟨⟨by decide +kernel, by decide +kernel⟩, List.mem_of_getElem? (i := 248) (by decide +kernel), List.mem_of_getElem? (i := 377) (by decide +kernel), List.mem_of_getElem? (i := 378) (by decide +kernel)⟩
theorem lw_p25 : lw_okq (⟨"DetentCabinetModel", "moved", "(IJ)Z"⟩, 19) := ⟨⟨by decide +kernel, by decide +kernel⟩, List.mem_of_getElem? (i := 248) (by decide +kernel), List.mem_of_getElem? (i := 381) (by decide +kernel), List.mem_of_getElem? (i := 382) (by decide +kernel)⟩
theorem lw_p26 : lw_okq (⟨"DetentCabinetModel", "gives", "(III)J"⟩, 19) := ⟨⟨by decide +kernel, by decide +kernel⟩, List.mem_of_getElem? (i := 248) (by decide +kernel), List.mem_of_getElem? (i := 385) (by decide +kernel), List.mem_of_getElem? (i := 386) (by decide +kernel)⟩
theorem lw_p27 : lw_okq (⟨"DetentCabinetModel", "plain", "(IJ)J"⟩, 19) := ⟨⟨by decide +kernel, by decide +kernel⟩, List.mem_of_getElem? (i := 248) (by decide +kernel), List.mem_of_getElem? (i := 389) (by decide +kernel), List.mem_of_getElem? (i := 390) (by decide +kernel)⟩
theorem lw_p28 : lw_okq (⟨"DetentCabinetModel", "signed", "(IJJ)J"⟩, 19) := ⟨⟨by decide +kernel, by decide +kernel⟩, List.mem_of_getElem? (i := 248) (by decide +kernel), List.mem_of_getElem? (i := 393) (by decide +kernel), List.mem_of_getElem? (i := 394) (by decide +kernel)⟩
theorem lw_p29 : lw_okq (⟨"DetentCabinetModel", "sizeOf", "(IJ)J"⟩, 19) := ⟨⟨by decide +kernel, by decide +kernel⟩, List.mem_of_getElem? (i := 248) (by decide +kernel), List.mem_of_getElem? (i := 399) (by decide +kernel), List.mem_of_getElem? (i := 400) (by decide +kernel)⟩
theorem lw_p30 : lw_okq (⟨"DetentCabinetModel", "keep", "()V"⟩, 19) := ⟨⟨by decide +kernel, by decide +kernel⟩, List.mem_of_getElem? (i := 248) (by decide +kernel), List.mem_of_getElem? (i := 403) (by decide +kernel), List.mem_of_getElem? (i := 404) (by decide +kernel)⟩
theorem lw_p31 : lw_okq (⟨"DetentCabinetModel", "turned", "(IJI)J"⟩, 19) := ⟨⟨by decide +kernel, by decide +kernel⟩, List.mem_of_getElem? (i := 248) (by decide +kernel), List.mem_of_getElem? (i := 411) (by decide +kernel), List.mem_of_getElem? (i := 412) (by decide +kernel)⟩
def lw_privs_2 : List (MethodName × Nat) := [(⟨"DetentCabinetModel", "rank", "(IJ)J"⟩, 19), (⟨"DetentCabinetModel", "isReal", "(I)Z"⟩, 19), (⟨"DetentCabinetModel", "fitted", "(IJ)J"⟩, 19), (⟨"DetentCabinetModel", "less", "(IJJ)J"⟩, 19), (⟨"DetentCabinetModel", "greater", "(IJJ)J"⟩, 19), (⟨"DetentCabinetModel", "isDial", "(I)Z"⟩, 19), (⟨"DetentCabinetModel", "reason", "(III)I"⟩, 19), (⟨"DetentCabinetModel", "call", "(IJ)I"⟩, 19), (⟨"DetentCabinetModel", "gets", "(IJ)V"⟩, 19), (⟨"DetentCabinetModel", "moved", "(IJ)Z"⟩, 19), (⟨"DetentCabinetModel", "gives", "(III)J"⟩, 19), (⟨"DetentCabinetModel", "plain", "(IJ)J"⟩, 19), (⟨"DetentCabinetModel", "signed", "(IJJ)J"⟩, 19), (⟨"DetentCabinetModel", "sizeOf", "(IJ)J"⟩, 19), (⟨"DetentCabinetModel", "keep", "()V"⟩, 19), (⟨"DetentCabinetModel", "turned", "(IJI)J"⟩, 19)]
theorem lw_r2 : ∀ q ∈ lw_privs_2, lw_okq q := List.forall_mem_cons.mpr ⟨lw_p16, List.forall_mem_cons.mpr ⟨lw_p17, List.forall_mem_cons.mpr ⟨lw_p18, List.forall_mem_cons.mpr ⟨lw_p19, List.forall_mem_cons.mpr ⟨lw_p20, List.forall_mem_cons.mpr ⟨lw_p21, List.forall_mem_cons.mpr ⟨lw_p22, List.forall_mem_cons.mpr ⟨lw_p23, List.forall_mem_cons.mpr ⟨lw_p24, List.forall_mem_cons.mpr ⟨lw_p25, List.forall_mem_cons.mpr ⟨lw_p26, List.forall_mem_cons.mpr ⟨lw_p27, List.forall_mem_cons.mpr ⟨lw_p28, List.forall_mem_cons.mpr ⟨lw_p29, List.forall_mem_cons.mpr ⟨lw_p30, List.forall_mem_cons.mpr ⟨lw_p31, fun _ h => absurd h List.not_mem_nil⟩⟩⟩⟩⟩⟩⟩⟩⟩⟩⟩⟩⟩⟩⟩⟩
theorem lw_p32 : lw_okq (⟨"DetentCabinetModel", "whole", "(IJI)J"⟩, 19) := ⟨⟨by decide +kernel, by decide +kernel⟩, List.mem_of_getElem? (i := 248) (by decide +kernel), List.mem_of_getElem? (i := 415) (by decide +kernel), List.mem_of_getElem? (i := 416) (by decide +kernel)⟩
theorem lw_p33 : lw_okq (⟨"DetentCabinetModel", "one", "(I)J"⟩, 19) := ⟨⟨by decide +kernel, by decide +kernel⟩, List.mem_of_getElem? (i := 248) (by decide +kernel), List.mem_of_getElem? (i := 419) (by decide +kernel), List.mem_of_getElem? (i := 420) (by decide +kernel)⟩
def lw_privs_3 : List (MethodName × Nat) := [(⟨"DetentCabinetModel", "whole", "(IJI)J"⟩, 19), (⟨"DetentCabinetModel", "one", "(I)J"⟩, 19)]
theorem lw_r3 : ∀ q ∈ lw_privs_3, lw_okq q := List.forall_mem_cons.mpr ⟨lw_p32, List.forall_mem_cons.mpr ⟨lw_p33, fun _ h => absurd h List.not_mem_nil⟩⟩
def lw_privs : List (MethodName × Nat) := lw_privs_1 ++ (lw_privs_2 ++ (lw_privs_3))
def lw_tbl : List Cond := k2_sels lw_privs ++ tables_1
theorem lw_privs_ok : ∀ q ∈ lw_privs, lw_okq q := by
  show ∀ q ∈ lw_privs_1 ++ (lw_privs_2 ++ (lw_privs_3)), lw_okq q
  exact List.forall_mem_append.mpr ⟨lw_r1, List.forall_mem_append.mpr ⟨lw_r2, lw_r3⟩⟩
end
section
/-! ===== BEGIN words of one list among another's, by their places ===== -/
theorem goodIn_r {big : List Cond} (ws : List Cond) (ps : List Nat) (hp : ws = ps.filterMap (fun i => big[i]?)) (h : ws.all goodWord = true) : GoodIn big ws := by
  intro w hw
  have h1 := List.all_eq_true.mp h w hw
  rw [hp] at hw
  obtain ⟨i, -, hi⟩ := List.mem_filterMap.mp hw
  have hm : w ∈ big := by first | exact List.mem_of_getElem? hi | exact List.getElem?_mem hi
  exact ⟨hm, good_of_word h1⟩
theorem goodIn_app {big a b : List Cond} (ha : GoodIn big a) (hb : GoodIn big b) : GoodIn big (a ++ b) := fun w h => (List.mem_append.mp h).elim (ha w) (hb w)
theorem goodIn_ca {big a b : List Cond} {c : Cond} (ha : GoodIn big (c :: a)) (hb : GoodIn big b) : GoodIn big (c :: (a ++ b)) := fun w h => (List.mem_cons.mp h).elim (fun e => ha w (List.mem_cons.mpr (Or.inl e))) (fun h => (List.mem_append.mp h).elim (fun h => ha w (List.mem_cons.mpr (Or.inr h))) (hb w))
theorem goodIn_sub {big ws : List Cond} (hm : ∀ w ∈ ws, w ∈ big) (h : ws.all goodWord = true) : GoodIn big ws := fun w hw => ⟨hm w hw, good_of_word (List.all_eq_true.mp h w hw)⟩
/-! ===== END ===== -/

/-! ===== BEGIN printed: names, fields, word lists, decode rows ===== -/
def RX0 : String := "DetentCabinet$Numbers"
def TX0 : u_T := fun k => match k with
  | _ => ("", "", "", false)
def tyX0 : Nat → FieldType := fun k => match k with
  | _ => .int
abbrev wsX00 : List Cond := u_ws RX0 TX0 0
theorem nmX0 : ∀ a, a < 0 → ∀ b, b < 0 → a ≠ b → (TX0 a).2.1 ≠ (TX0 b).2.1 := by decide +kernel
theorem tyX0_ok : ∀ k, k < 0 → parseFieldDescriptor (TX0 k).2.2.1 = some (tyX0 k) := by decide +kernel
abbrev cX0_isReal : ByteArray := prog_2_method_2_code
def yX0_isReal : MethodName := ⟨RX0, "isReal", "(I)Z"⟩
abbrev cX0_isOfKind : ByteArray := prog_2_method_3_code
def yX0_isOfKind : MethodName := ⟨RX0, "isOfKind", "(IJ)Z"⟩
abbrev cX0_compared : ByteArray := prog_2_method_4_code
def yX0_compared : MethodName := ⟨RX0, "compared", "(IJJ)I"⟩
abbrev cX0_greater : ByteArray := prog_2_method_5_code
def yX0_greater : MethodName := ⟨RX0, "greater", "(IJJ)J"⟩
abbrev cX0_less : ByteArray := prog_2_method_6_code
def yX0_less : MethodName := ⟨RX0, "less", "(IJJ)J"⟩
abbrev cX0_fitted : ByteArray := prog_2_method_7_code
def yX0_fitted : MethodName := ⟨RX0, "fitted", "(IJJJ)J"⟩
abbrev cX0_sizeOf : ByteArray := prog_2_method_8_code
def yX0_sizeOf : MethodName := ⟨RX0, "sizeOf", "(IJ)J"⟩
abbrev cX0_signed : ByteArray := prog_2_method_9_code
def yX0_signed : MethodName := ⟨RX0, "signed", "(IJJ)J"⟩
abbrev cX0_turned : ByteArray := prog_2_method_10_code
def yX0_turned : MethodName := ⟨RX0, "turned", "(IJI)J"⟩
abbrev cX0_wholeSize : ByteArray := prog_2_method_11_code
def yX0_wholeSize : MethodName := ⟨RX0, "wholeSize", "(IJI)J"⟩
abbrev cX0_isAway : ByteArray := prog_2_method_12_code
def yX0_isAway : MethodName := ⟨RX0, "isAway", "(JIZ)Z"⟩
abbrev cX0_rank : ByteArray := prog_2_method_13_code
def yX0_rank : MethodName := ⟨RX0, "rank", "(IJ)J"⟩
abbrev cX0_sizeBits : ByteArray := prog_2_method_14_code
def yX0_sizeBits : MethodName := ⟨RX0, "sizeBits", "(I)J"⟩
abbrev cX0_placesOf : ByteArray := prog_2_method_15_code
def yX0_placesOf : MethodName := ⟨RX0, "placesOf", "(I)I"⟩
abbrev cX0_oneOf : ByteArray := prog_2_method_16_code
def yX0_oneOf : MethodName := ⟨RX0, "oneOf", "(I)J"⟩
def RX1 : String := "DetentCabinet$Steps"
def TX1 : u_T := fun k => match k with
  | 0 => ("DetentCabinet$Steps", "valuesAhead", "[J", true)
  | 1 => ("DetentCabinet$Steps", "dialsAhead", "[I", true)
  | 2 => ("DetentCabinet$Steps", "earliest", "I", false)
  | _ => ("DetentCabinet$Steps", "held", "I", false)
def tyX1 : Nat → FieldType := fun k => match k with
  | 0 => .array .long
  | 1 => .array .int
  | 2 => .int
  | _ => .int
abbrev wsX10 : List Cond := u_ws RX1 TX1 4
theorem nmX1 : ∀ a, a < 4 → ∀ b, b < 4 → a ≠ b → (TX1 a).2.1 ≠ (TX1 b).2.1 := by decide +kernel
theorem tyX1_ok : ∀ k, k < 4 → parseFieldDescriptor (TX1 k).2.2.1 = some (tyX1 k) := by decide +kernel
abbrev cX1_init : ByteArray := prog_3_method_1_code
def yX1_init : MethodName := ⟨RX1, "<init>", "()V"⟩
abbrev cX1_held : ByteArray := prog_3_method_2_code
def yX1_held : MethodName := ⟨RX1, "held", "()I"⟩
abbrev cX1_keep : ByteArray := prog_3_method_3_code
def yX1_keep : MethodName := ⟨RX1, "keep", "([JI)V"⟩
abbrev cX1_restoreLatest : ByteArray := prog_3_method_4_code
def yX1_restoreLatest : MethodName := ⟨RX1, "restoreLatest", "([J)I"⟩
def RX2 : String := "DetentCabinet"
def TX2 : u_T := fun k => match k with
  | 0 => ("DetentCabinet", "kinds", "[I", true)
  | 1 => ("DetentCabinet", "lows", "[J", true)
  | 2 => ("DetentCabinet", "highs", "[J", true)
  | 3 => ("DetentCabinet", "values", "[J", true)
  | 4 => ("DetentCabinet", "dialCount", "I", false)
  | 5 => ("DetentCabinet", "rodSorts", "[I", true)
  | 6 => ("DetentCabinet", "rodFroms", "[I", true)
  | 7 => ("DetentCabinet", "rodTos", "[I", true)
  | 8 => ("DetentCabinet", "rodGone", "[Z", true)
  | 9 => ("DetentCabinet", "rodCount", "I", false)
  | 10 => ("DetentCabinet", "steps", "LDetentCabinet$Steps;", true)
  | 11 => ("DetentCabinet", "movesOfCall", "I", false)
  | 12 => ("DetentCabinet", "movesInAll", "I", false)
  | _ => ("DetentCabinet", "fault", "I", false)
def tyX2 : Nat → FieldType := fun k => match k with
  | 0 => .array .int
  | 1 => .array .long
  | 2 => .array .long
  | 3 => .array .long
  | 4 => .int
  | 5 => .array .int
  | 6 => .array .int
  | 7 => .array .int
  | 8 => .array .boolean
  | 9 => .int
  | 10 => .object "DetentCabinet$Steps"
  | 11 => .int
  | 12 => .int
  | _ => .int
abbrev wsX20 : List Cond := u_ws RX2 TX2 14
theorem nmX2 : ∀ a, a < 14 → ∀ b, b < 14 → a ≠ b → (TX2 a).2.1 ≠ (TX2 b).2.1 := by decide +kernel
theorem tyX2_ok : ∀ k, k < 14 → parseFieldDescriptor (TX2 k).2.2.1 = some (tyX2 k) := by decide +kernel
abbrev cX2_init : ByteArray := prog_1_method_1_code
def yX2_init : MethodName := ⟨RX2, "<init>", "()V"⟩
abbrev cX2_dial : ByteArray := prog_1_method_2_code
def yX2_dial : MethodName := ⟨RX2, "dial", "(IJJ)I"⟩
abbrev cX2_rod : ByteArray := prog_1_method_3_code
def yX2_rod : MethodName := ⟨RX2, "rod", "(III)I"⟩
abbrev cX2_set : ByteArray := prog_1_method_4_code
def yX2_set : MethodName := ⟨RX2, "set", "(IJ)I"⟩
abbrev cX2_turn : ByteArray := prog_1_method_5_code
def yX2_turn : MethodName := ⟨RX2, "turn", "(II)I"⟩
abbrev cX2_take : ByteArray := prog_1_method_6_code
def yX2_take : MethodName := ⟨RX2, "take", "(III)I"⟩
abbrev cX2_back : ByteArray := prog_1_method_7_code
def yX2_back : MethodName := ⟨RX2, "back", "()I"⟩
abbrev cX2_order : ByteArray := prog_1_method_8_code
def yX2_order : MethodName := ⟨RX2, "order", "(II)I"⟩
abbrev cX2_look : ByteArray := prog_1_method_9_code
def yX2_look : MethodName := ⟨RX2, "look", "(II)J"⟩
abbrev cX2_count : ByteArray := prog_1_method_10_code
def yX2_count : MethodName := ⟨RX2, "count", "(I)I"⟩
abbrev cX2_faultOfDial : ByteArray := prog_1_method_11_code
def yX2_faultOfDial : MethodName := ⟨RX2, "faultOfDial", "(IJJ)I"⟩
abbrev cX2_faultOfRod : ByteArray := prog_1_method_12_code
def yX2_faultOfRod : MethodName := ⟨RX2, "faultOfRod", "(III)I"⟩
abbrev cX2_faultOfSet : ByteArray := prog_1_method_13_code
def yX2_faultOfSet : MethodName := ⟨RX2, "faultOfSet", "(IJ)I"⟩
abbrev cX2_faultOfTurn : ByteArray := prog_1_method_14_code
def yX2_faultOfTurn : MethodName := ⟨RX2, "faultOfTurn", "(II)I"⟩
abbrev cX2_faultOfTake : ByteArray := prog_1_method_15_code
def yX2_faultOfTake : MethodName := ⟨RX2, "faultOfTake", "(III)I"⟩
abbrev cX2_faultOfOrder : ByteArray := prog_1_method_16_code
def yX2_faultOfOrder : MethodName := ⟨RX2, "faultOfOrder", "(II)I"⟩
abbrev cX2_faultOfPair : ByteArray := prog_1_method_17_code
def yX2_faultOfPair : MethodName := ⟨RX2, "faultOfPair", "(III)I"⟩
abbrev cX2_isDial : ByteArray := prog_1_method_18_code
def yX2_isDial : MethodName := ⟨RX2, "isDial", "(I)Z"⟩
abbrev cX2_isSort : ByteArray := prog_1_method_19_code
def yX2_isSort : MethodName := ⟨RX2, "isSort", "(I)Z"⟩
abbrev cX2_movesWhenGiven : ByteArray := prog_1_method_20_code
def yX2_movesWhenGiven : MethodName := ⟨RX2, "movesWhenGiven", "(IJ)I"⟩
abbrev cX2_gets : ByteArray := prog_1_method_21_code
def yX2_gets : MethodName := ⟨RX2, "gets", "(IJI)V"⟩
abbrev cX2_move : ByteArray := prog_1_method_22_code
def yX2_move : MethodName := ⟨RX2, "move", "(IJ)V"⟩
abbrev cX2_gift : ByteArray := prog_1_method_23_code
def yX2_gift : MethodName := ⟨RX2, "gift", "(III)J"⟩
def RX3 : String := "DetentCabinetModel"
def TX3 : u_T := fun k => match k with
  | 0 => ("DetentCabinetModel", "kind", "[I", true)
  | 1 => ("DetentCabinetModel", "value", "[J", true)
  | 2 => ("DetentCabinetModel", "low", "[J", true)
  | 3 => ("DetentCabinetModel", "high", "[J", true)
  | 4 => ("DetentCabinetModel", "dials", "I", false)
  | 5 => ("DetentCabinetModel", "sort", "[I", true)
  | 6 => ("DetentCabinetModel", "from", "[I", true)
  | 7 => ("DetentCabinetModel", "to", "[I", true)
  | 8 => ("DetentCabinetModel", "gone", "[Z", true)
  | 9 => ("DetentCabinetModel", "rods", "I", false)
  | 10 => ("DetentCabinetModel", "kept", "[J", true)
  | 11 => ("DetentCabinetModel", "ahead", "[J", true)
  | 12 => ("DetentCabinetModel", "keptDials", "[I", true)
  | 13 => ("DetentCabinetModel", "steps", "I", false)
  | 14 => ("DetentCabinetModel", "moves", "I", false)
  | 15 => ("DetentCabinetModel", "movesInAll", "I", false)
  | 16 => ("DetentCabinetModel", "fault", "I", false)
  | 17 => ("DetentCabinetModel", "open", "[I", true)
  | _ => ("DetentCabinetModel", "nextRod", "[I", true)
def tyX3 : Nat → FieldType := fun k => match k with
  | 0 => .array .int
  | 1 => .array .long
  | 2 => .array .long
  | 3 => .array .long
  | 4 => .int
  | 5 => .array .int
  | 6 => .array .int
  | 7 => .array .int
  | 8 => .array .boolean
  | 9 => .int
  | 10 => .array .long
  | 11 => .array .long
  | 12 => .array .int
  | 13 => .int
  | 14 => .int
  | 15 => .int
  | 16 => .int
  | 17 => .array .int
  | _ => .array .int
abbrev wsX30 : List Cond := u_ws RX3 TX3 19
theorem nmX3 : ∀ a, a < 19 → ∀ b, b < 19 → a ≠ b → (TX3 a).2.1 ≠ (TX3 b).2.1 := by decide +kernel
theorem tyX3_ok : ∀ k, k < 19 → parseFieldDescriptor (TX3 k).2.2.1 = some (tyX3 k) := by decide +kernel
abbrev cX3_init : ByteArray := prog_5_method_1_code
def yX3_init : MethodName := ⟨RX3, "<init>", "()V"⟩
abbrev cX3_isDial : ByteArray := prog_5_method_3_code
def yX3_isDial : MethodName := ⟨RX3, "isDial", "(I)Z"⟩
abbrev cX3_isReal : ByteArray := prog_5_method_4_code
def yX3_isReal : MethodName := ⟨RX3, "isReal", "(I)Z"⟩
abbrev cX3_refused : ByteArray := prog_5_method_5_code
def yX3_refused : MethodName := ⟨RX3, "refused", "(I)I"⟩
abbrev cX3_isInt : ByteArray := prog_5_method_6_code
def yX3_isInt : MethodName := ⟨RX3, "isInt", "(J)Z"⟩
abbrev cX3_isNumber : ByteArray := prog_5_method_7_code
def yX3_isNumber : MethodName := ⟨RX3, "isNumber", "(IJ)Z"⟩
abbrev cX3_rank : ByteArray := prog_5_method_8_code
def yX3_rank : MethodName := ⟨RX3, "rank", "(IJ)J"⟩
abbrev cX3_isAbove : ByteArray := prog_5_method_9_code
def yX3_isAbove : MethodName := ⟨RX3, "isAbove", "(IJJ)Z"⟩
abbrev cX3_greater : ByteArray := prog_5_method_10_code
def yX3_greater : MethodName := ⟨RX3, "greater", "(IJJ)J"⟩
abbrev cX3_less : ByteArray := prog_5_method_11_code
def yX3_less : MethodName := ⟨RX3, "less", "(IJJ)J"⟩
abbrev cX3_plain : ByteArray := prog_5_method_12_code
def yX3_plain : MethodName := ⟨RX3, "plain", "(IJ)J"⟩
abbrev cX3_signed : ByteArray := prog_5_method_13_code
def yX3_signed : MethodName := ⟨RX3, "signed", "(IJJ)J"⟩
abbrev cX3_sizeOf : ByteArray := prog_5_method_14_code
def yX3_sizeOf : MethodName := ⟨RX3, "sizeOf", "(IJ)J"⟩
abbrev cX3_one : ByteArray := prog_5_method_15_code
def yX3_one : MethodName := ⟨RX3, "one", "(I)J"⟩
abbrev cX3_whole : ByteArray := prog_5_method_16_code
def yX3_whole : MethodName := ⟨RX3, "whole", "(IJI)J"⟩
abbrev cX3_turned : ByteArray := prog_5_method_17_code
def yX3_turned : MethodName := ⟨RX3, "turned", "(IJI)J"⟩
abbrev cX3_fitted : ByteArray := prog_5_method_18_code
def yX3_fitted : MethodName := ⟨RX3, "fitted", "(IJ)J"⟩
abbrev cX3_gives : ByteArray := prog_5_method_19_code
def yX3_gives : MethodName := ⟨RX3, "gives", "(III)J"⟩
abbrev cX3_moved : ByteArray := prog_5_method_20_code
def yX3_moved : MethodName := ⟨RX3, "moved", "(IJ)Z"⟩
abbrev cX3_gets : ByteArray := prog_5_method_21_code
def yX3_gets : MethodName := ⟨RX3, "gets", "(IJ)V"⟩
abbrev cX3_call : ByteArray := prog_5_method_22_code
def yX3_call : MethodName := ⟨RX3, "call", "(IJ)I"⟩
abbrev cX3_keep : ByteArray := prog_5_method_23_code
def yX3_keep : MethodName := ⟨RX3, "keep", "()V"⟩
abbrev cX3_dial : ByteArray := prog_5_method_24_code
def yX3_dial : MethodName := ⟨RX3, "dial", "(IJJ)I"⟩
abbrev cX3_reason : ByteArray := prog_5_method_25_code
def yX3_reason : MethodName := ⟨RX3, "reason", "(III)I"⟩
abbrev cX3_rod : ByteArray := prog_5_method_26_code
def yX3_rod : MethodName := ⟨RX3, "rod", "(III)I"⟩
abbrev cX3_set : ByteArray := prog_5_method_27_code
def yX3_set : MethodName := ⟨RX3, "set", "(IJ)I"⟩
abbrev cX3_turn : ByteArray := prog_5_method_28_code
def yX3_turn : MethodName := ⟨RX3, "turn", "(II)I"⟩
abbrev cX3_take : ByteArray := prog_5_method_29_code
def yX3_take : MethodName := ⟨RX3, "take", "(III)I"⟩
abbrev cX3_back : ByteArray := prog_5_method_30_code
def yX3_back : MethodName := ⟨RX3, "back", "()I"⟩
abbrev cX3_order : ByteArray := prog_5_method_31_code
def yX3_order : MethodName := ⟨RX3, "order", "(II)I"⟩
abbrev cX3_look : ByteArray := prog_5_method_32_code
def yX3_look : MethodName := ⟨RX3, "look", "(II)J"⟩
abbrev cX3_count : ByteArray := prog_5_method_33_code
def yX3_count : MethodName := ⟨RX3, "count", "(I)I"⟩
def RJ9 : String := "java/lang/Math"
def TJ9 : u_T := fun k => match k with
  | _ => ("", "", "", false)
def tyJ9 : Nat → FieldType := fun k => match k with
  | _ => .int
abbrev wsJ90 : List Cond := u_ws RJ9 TJ9 0
theorem nmJ9 : ∀ a, a < 0 → ∀ b, b < 0 → a ≠ b → (TJ9 a).2.1 ≠ (TJ9 b).2.1 := by decide +kernel
theorem tyJ9_ok : ∀ k, k < 0 → parseFieldDescriptor (TJ9 k).2.2.1 = some (tyJ9 k) := by decide +kernel
abbrev cJ9_abs_0f7a4 : ByteArray := prog_6_method_59_code
def yJ9_abs_0f7a4 : MethodName := ⟨RJ9, "abs", "(I)I"⟩
abbrev cJ9_abs_067f4 : ByteArray := prog_6_method_61_code
def yJ9_abs_067f4 : MethodName := ⟨RJ9, "abs", "(J)J"⟩
def RJ10 : String := "java/lang/System"
def TJ10 : u_T := fun k => match k with
  | _ => ("", "", "", false)
def tyJ10 : Nat → FieldType := fun k => match k with
  | _ => .int
abbrev wsJ100 : List Cond := u_ws RJ10 TJ10 0
theorem nmJ10 : ∀ a, a < 0 → ∀ b, b < 0 → a ≠ b → (TJ10 a).2.1 ≠ (TJ10 b).2.1 := by decide +kernel
theorem tyJ10_ok : ∀ k, k < 0 → parseFieldDescriptor (TJ10 k).2.2.1 = some (tyJ10 k) := by decide +kernel
def RL : String := "DetentCabinetLaw"
abbrev cL_law : ByteArray := code
def yL_law : MethodName := ⟨RL, "law", "([I)Z"⟩
def wsX0_isReal : List Cond := .code yX0_isReal cX0_isReal 1 (some .boolean) :: ([])
def wsX0_isOfKind : List Cond := .code yX0_isOfKind cX0_isOfKind 4 (some .boolean) :: ([.constantLong RX0 11 (-2147483648), .constantLong RX0 13 (2147483647), .constantLong RX0 17 (2139095040), .constantLong RX0 19 (9223372036854775807), .constantLong RX0 21 (9218868437227405312)])
def wsX0_sizeBits : List Cond := .code yX0_sizeBits cX0_sizeBits 1 (some .long) :: ([.constantLong RX0 13 (2147483647), .constantLong RX0 19 (9223372036854775807)])
def wsX0_rank : List Cond := .code yX0_rank cX0_rank 3 (some .long) :: ([.methodLink RX0 73 yX0_isReal, .static yX0_isReal, .initialized RX0, .code yX0_isReal cX0_isReal 1 (some .boolean), .methodLink RX0 47 yX0_sizeBits, .static yX0_sizeBits, .code yX0_sizeBits cX0_sizeBits 1 (some .long), .constantLong RX0 13 (2147483647), .constantLong RX0 19 (9223372036854775807)])
def wsX0_compared : List Cond := .code yX0_compared cX0_compared 9 (some .int) :: ([.methodLink RX0 23 yX0_rank, .static yX0_rank, .initialized RX0, .code yX0_rank cX0_rank 3 (some .long), .methodLink RX0 73 yX0_isReal, .static yX0_isReal, .code yX0_isReal cX0_isReal 1 (some .boolean), .methodLink RX0 47 yX0_sizeBits, .static yX0_sizeBits, .code yX0_sizeBits cX0_sizeBits 1 (some .long), .constantLong RX0 13 (2147483647), .constantLong RX0 19 (9223372036854775807)])
def wsX0_greater : List Cond := .code yX0_greater cX0_greater 5 (some .long) :: ([.methodLink RX0 27 yX0_compared, .static yX0_compared, .initialized RX0, .code yX0_compared cX0_compared 9 (some .int), .methodLink RX0 23 yX0_rank, .static yX0_rank, .code yX0_rank cX0_rank 3 (some .long), .methodLink RX0 73 yX0_isReal, .static yX0_isReal, .code yX0_isReal cX0_isReal 1 (some .boolean), .methodLink RX0 47 yX0_sizeBits, .static yX0_sizeBits, .code yX0_sizeBits cX0_sizeBits 1 (some .long), .constantLong RX0 13 (2147483647), .constantLong RX0 19 (9223372036854775807)])
def wsX0_less : List Cond := .code yX0_less cX0_less 5 (some .long) :: ([.methodLink RX0 27 yX0_compared, .static yX0_compared, .initialized RX0, .code yX0_compared cX0_compared 9 (some .int), .methodLink RX0 23 yX0_rank, .static yX0_rank, .code yX0_rank cX0_rank 3 (some .long), .methodLink RX0 73 yX0_isReal, .static yX0_isReal, .code yX0_isReal cX0_isReal 1 (some .boolean), .methodLink RX0 47 yX0_sizeBits, .static yX0_sizeBits, .code yX0_sizeBits cX0_sizeBits 1 (some .long), .constantLong RX0 13 (2147483647), .constantLong RX0 19 (9223372036854775807)])
def wsX0_fitted : List Cond := .code yX0_fitted cX0_fitted 7 (some .long) :: ([.methodLink RX0 31 yX0_less, .static yX0_less, .initialized RX0, .code yX0_less cX0_less 5 (some .long), .methodLink RX0 27 yX0_compared, .static yX0_compared, .code yX0_compared cX0_compared 9 (some .int), .methodLink RX0 23 yX0_rank, .static yX0_rank, .code yX0_rank cX0_rank 3 (some .long), .methodLink RX0 73 yX0_isReal, .static yX0_isReal, .code yX0_isReal cX0_isReal 1 (some .boolean), .methodLink RX0 47 yX0_sizeBits, .static yX0_sizeBits, .code yX0_sizeBits cX0_sizeBits 1 (some .long), .constantLong RX0 13 (2147483647), .constantLong RX0 19 (9223372036854775807), .methodLink RX0 35 yX0_greater, .static yX0_greater, .code yX0_greater cX0_greater 5 (some .long)])
def wsX0_sizeOf : List Cond := .code yX0_sizeOf cX0_sizeOf 3 (some .long) :: ([.methodLink RX0 38 Lib.Math.abs.name, .static Lib.Math.abs.name, .initialized "java/lang/Math", .code Lib.Math.abs.name Lib.Math.abs.code 1 (some .int), .methodLink RX0 44 Lib.MathLoose.abs_long.x, .static Lib.MathLoose.abs_long.x, .code Lib.MathLoose.abs_long.x Lib.MathLoose.abs_long.code 2 (some .long), .methodLink RX0 47 yX0_sizeBits, .static yX0_sizeBits, .initialized RX0, .code yX0_sizeBits cX0_sizeBits 1 (some .long), .constantLong RX0 13 (2147483647), .constantLong RX0 19 (9223372036854775807)])
def wsX0_signed : List Cond := .code yX0_signed cX0_signed 7 (some .long) :: ([.constantLong RX0 51 (-1), .methodLink RX0 47 yX0_sizeBits, .static yX0_sizeBits, .initialized RX0, .code yX0_sizeBits cX0_sizeBits 1 (some .long), .constantLong RX0 13 (2147483647), .constantLong RX0 19 (9223372036854775807)])
def wsX0_placesOf : List Cond := .code yX0_placesOf cX0_placesOf 1 (some .int) :: ([])
def wsX0_oneOf : List Cond := .code yX0_oneOf cX0_oneOf 1 (some .long) :: ([.constantLong RX0 77 (127), .constantLong RX0 79 (1023), .methodLink RX0 66 yX0_placesOf, .static yX0_placesOf, .initialized RX0, .code yX0_placesOf cX0_placesOf 1 (some .int)])
def wsX0_isAway : List Cond := .code yX0_isAway cX0_isAway 4 (some .boolean) :: ([])
def wsX0_wholeSize_r1 : List Cond := [Cond.methodLink RX0 66 yX0_placesOf, Cond.static yX0_placesOf, Cond.initialized RX0, Cond.code yX0_placesOf cX0_placesOf 1 (some .int), Cond.methodLink RX0 53 yX0_sizeOf, Cond.static yX0_sizeOf, Cond.code yX0_sizeOf cX0_sizeOf 3 (some .long), Cond.methodLink RX0 38 Lib.Math.abs.name, Cond.static Lib.Math.abs.name, Cond.initialized "java/lang/Math", Cond.code Lib.Math.abs.name Lib.Math.abs.code 1 (some .int), Cond.methodLink RX0 44 Lib.MathLoose.abs_long.x, Cond.static Lib.MathLoose.abs_long.x, Cond.code Lib.MathLoose.abs_long.x Lib.MathLoose.abs_long.code 2 (some .long), Cond.methodLink RX0 47 yX0_sizeBits, Cond.static yX0_sizeBits, Cond.code yX0_sizeBits cX0_sizeBits 1 (some .long), Cond.constantLong RX0 13 (2147483647), Cond.constantLong RX0 19 (9223372036854775807), Cond.methodLink RX0 56 yX0_oneOf, Cond.static yX0_oneOf, Cond.code yX0_oneOf cX0_oneOf 1 (some .long), Cond.constantLong RX0 77 (127), Cond.constantLong RX0 79 (1023)]
def wsX0_wholeSize_r2 : List Cond := [Cond.methodLink RX0 69 yX0_isAway, Cond.static yX0_isAway, Cond.code yX0_isAway cX0_isAway 4 (some .boolean)]
def wsX0_wholeSize : List Cond := .code yX0_wholeSize cX0_wholeSize 21 (some .long) :: ((wsX0_wholeSize_r1 ++ wsX0_wholeSize_r2))
def wsX0_turned_r1 : List Cond := [Cond.methodLink RX0 53 yX0_sizeOf, Cond.static yX0_sizeOf, Cond.initialized RX0, Cond.code yX0_sizeOf cX0_sizeOf 3 (some .long), Cond.methodLink RX0 38 Lib.Math.abs.name, Cond.static Lib.Math.abs.name, Cond.initialized "java/lang/Math", Cond.code Lib.Math.abs.name Lib.Math.abs.code 1 (some .int), Cond.methodLink RX0 44 Lib.MathLoose.abs_long.x, Cond.static Lib.MathLoose.abs_long.x, Cond.code Lib.MathLoose.abs_long.x Lib.MathLoose.abs_long.code 2 (some .long), Cond.methodLink RX0 47 yX0_sizeBits, Cond.static yX0_sizeBits, Cond.code yX0_sizeBits cX0_sizeBits 1 (some .long), Cond.constantLong RX0 13 (2147483647), Cond.constantLong RX0 19 (9223372036854775807), Cond.methodLink RX0 56 yX0_oneOf, Cond.static yX0_oneOf, Cond.code yX0_oneOf cX0_oneOf 1 (some .long), Cond.constantLong RX0 77 (127), Cond.constantLong RX0 79 (1023), Cond.methodLink RX0 66 yX0_placesOf, Cond.static yX0_placesOf, Cond.code yX0_placesOf cX0_placesOf 1 (some .int)]
def wsX0_turned_r2 : List Cond := [Cond.methodLink RX0 59 yX0_signed, Cond.static yX0_signed, Cond.code yX0_signed cX0_signed 7 (some .long), Cond.constantLong RX0 51 (-1), Cond.methodLink RX0 62 yX0_wholeSize, Cond.static yX0_wholeSize, Cond.code yX0_wholeSize cX0_wholeSize 21 (some .long), Cond.methodLink RX0 69 yX0_isAway, Cond.static yX0_isAway, Cond.code yX0_isAway cX0_isAway 4 (some .boolean)]
def wsX0_turned : List Cond := .code yX0_turned cX0_turned 4 (some .long) :: ((wsX0_turned_r1 ++ wsX0_turned_r2))
def wsX1_init : List Cond := .code yX1_init cX1_init 1 none :: ([.methodLink RX1 3 objectInit, .instanceMethod objectInit, .code objectInit ⟨#[0xb1]⟩ 1 none, .arrayClass .long, .fieldLink RX1 9 "DetentCabinet$Steps" "valuesAhead" "[J", .arrayClass .int, .fieldLink RX1 15 "DetentCabinet$Steps" "dialsAhead" "[I"] ++ wsX10)
def wsX1_held : List Cond := .code yX1_held cX1_held 1 (some .int) :: ([.fieldLink RX1 19 "DetentCabinet$Steps" "held" "I"] ++ wsX10)
def wsX1_keep : List Cond := .code yX1_keep cX1_keep 4 none :: ([.fieldLink RX1 19 "DetentCabinet$Steps" "held" "I", .fieldLink RX1 23 "DetentCabinet$Steps" "earliest" "I", .fieldLink RX1 15 "DetentCabinet$Steps" "dialsAhead" "[I", .fieldLink RX1 9 "DetentCabinet$Steps" "valuesAhead" "[J", .methodLink RX1 26 arraycopyName, .native arraycopyName, .static arraycopyName, .initialized "java/lang/System"] ++ wsX10)
def wsX1_restoreLatest : List Cond := .code yX1_restoreLatest cX1_restoreLatest 7 (some .int) :: ([.fieldLink RX1 19 "DetentCabinet$Steps" "held" "I", .fieldLink RX1 23 "DetentCabinet$Steps" "earliest" "I", .fieldLink RX1 15 "DetentCabinet$Steps" "dialsAhead" "[I", .fieldLink RX1 9 "DetentCabinet$Steps" "valuesAhead" "[J"] ++ wsX10)
def wsX2_init : List Cond := .code yX2_init cX2_init 1 none :: ([.methodLink RX2 1 objectInit, .instanceMethod objectInit, .code objectInit ⟨#[0xb1]⟩ 1 none, .arrayClass .int, .fieldLink RX2 9 "DetentCabinet" "kinds" "[I", .arrayClass .long, .fieldLink RX2 13 "DetentCabinet" "lows" "[J", .fieldLink RX2 17 "DetentCabinet" "highs" "[J", .fieldLink RX2 20 "DetentCabinet" "values" "[J", .fieldLink RX2 23 "DetentCabinet" "rodSorts" "[I", .fieldLink RX2 26 "DetentCabinet" "rodFroms" "[I", .fieldLink RX2 29 "DetentCabinet" "rodTos" "[I", .arrayClass .boolean, .fieldLink RX2 32 "DetentCabinet" "rodGone" "[Z", .classLink RX2 36 RX1, .instantiable RX1 4, .initialized RX1, .fieldLink RX2 39 "DetentCabinet" "steps" "LDetentCabinet$Steps;", .methodLink RX2 38 yX1_init, .instanceMethod yX1_init, .code yX1_init cX1_init 1 none, .methodLink RX1 3 objectInit, .fieldLink RX1 9 "DetentCabinet$Steps" "valuesAhead" "[J", .fieldLink RX1 15 "DetentCabinet$Steps" "dialsAhead" "[I"] ++ wsX20 ++ wsX10)
def wsX2_faultOfDial : List Cond := .code yX2_faultOfDial cX2_faultOfDial 6 (some .int) :: ([.fieldLink RX2 51 "DetentCabinet" "dialCount" "I", .methodLink RX2 110 yX0_isOfKind, .static yX0_isOfKind, .initialized RX0, .code yX0_isOfKind cX0_isOfKind 4 (some .boolean), .constantLong RX0 11 (-2147483648), .constantLong RX0 13 (2147483647), .constantLong RX0 17 (2139095040), .constantLong RX0 19 (9223372036854775807), .constantLong RX0 21 (9218868437227405312), .methodLink RX2 100 yX0_compared, .static yX0_compared, .code yX0_compared cX0_compared 9 (some .int), .methodLink RX0 23 yX0_rank, .static yX0_rank, .code yX0_rank cX0_rank 3 (some .long), .methodLink RX0 73 yX0_isReal, .static yX0_isReal, .code yX0_isReal cX0_isReal 1 (some .boolean), .methodLink RX0 47 yX0_sizeBits, .static yX0_sizeBits, .code yX0_sizeBits cX0_sizeBits 1 (some .long)] ++ wsX20)
def wsX2_dial_r1 : List Cond := [Cond.fieldLink RX2 47 "DetentCabinet" "fault" "I", Cond.fieldLink RX2 51 "DetentCabinet" "dialCount" "I", Cond.fieldLink RX2 9 "DetentCabinet" "kinds" "[I", Cond.fieldLink RX2 13 "DetentCabinet" "lows" "[J", Cond.fieldLink RX2 17 "DetentCabinet" "highs" "[J", Cond.fieldLink RX2 20 "DetentCabinet" "values" "[J", Cond.methodLink RX2 43 yX2_faultOfDial, Cond.instanceMethod yX2_faultOfDial, Cond.selects RX2 yX2_faultOfDial yX2_faultOfDial, Cond.initialized RX2, Cond.code yX2_faultOfDial cX2_faultOfDial 6 (some .int), Cond.methodLink RX2 110 yX0_isOfKind, Cond.static yX0_isOfKind, Cond.initialized RX0, Cond.code yX0_isOfKind cX0_isOfKind 4 (some .boolean), Cond.constantLong RX0 11 (-2147483648), Cond.constantLong RX0 13 (2147483647), Cond.constantLong RX0 17 (2139095040), Cond.constantLong RX0 19 (9223372036854775807), Cond.constantLong RX0 21 (9218868437227405312), Cond.methodLink RX2 100 yX0_compared, Cond.static yX0_compared, Cond.code yX0_compared cX0_compared 9 (some .int), Cond.methodLink RX0 23 yX0_rank]
def wsX2_dial_r2 : List Cond := [Cond.static yX0_rank, Cond.code yX0_rank cX0_rank 3 (some .long), Cond.methodLink RX0 73 yX0_isReal, Cond.static yX0_isReal, Cond.code yX0_isReal cX0_isReal 1 (some .boolean), Cond.methodLink RX0 47 yX0_sizeBits, Cond.static yX0_sizeBits, Cond.code yX0_sizeBits cX0_sizeBits 1 (some .long), Cond.methodLink RX2 54 yX0_fitted, Cond.static yX0_fitted, Cond.code yX0_fitted cX0_fitted 7 (some .long), Cond.methodLink RX0 31 yX0_less, Cond.static yX0_less, Cond.code yX0_less cX0_less 5 (some .long), Cond.methodLink RX0 27 yX0_compared, Cond.methodLink RX0 35 yX0_greater, Cond.static yX0_greater, Cond.code yX0_greater cX0_greater 5 (some .long)]
def wsX2_dial : List Cond := .code yX2_dial cX2_dial 7 (some .int) :: ((wsX2_dial_r1 ++ wsX2_dial_r2) ++ wsX20)
def wsX2_isSort : List Cond := .code yX2_isSort cX2_isSort 1 (some .boolean) :: ([])
def wsX2_isDial : List Cond := .code yX2_isDial cX2_isDial 2 (some .boolean) :: ([.fieldLink RX2 51 "DetentCabinet" "dialCount" "I"] ++ wsX20)
def wsX2_faultOfPair : List Cond := .code yX2_faultOfPair cX2_faultOfPair 4 (some .int) :: ([.fieldLink RX2 9 "DetentCabinet" "kinds" "[I", .methodLink RX2 120 yX0_isReal, .static yX0_isReal, .initialized RX0, .code yX0_isReal cX0_isReal 1 (some .boolean)] ++ wsX20)
def wsX2_faultOfRod : List Cond := .code yX2_faultOfRod cX2_faultOfRod 5 (some .int) :: ([.fieldLink RX2 64 "DetentCabinet" "rodCount" "I", .methodLink RX2 114 yX2_isSort, .static yX2_isSort, .initialized RX2, .code yX2_isSort cX2_isSort 1 (some .boolean), .methodLink RX2 103 yX2_isDial, .instanceMethod yX2_isDial, .selects RX2 yX2_isDial yX2_isDial, .code yX2_isDial cX2_isDial 2 (some .boolean), .fieldLink RX2 51 "DetentCabinet" "dialCount" "I", .methodLink RX2 117 yX2_faultOfPair, .instanceMethod yX2_faultOfPair, .selects RX2 yX2_faultOfPair yX2_faultOfPair, .code yX2_faultOfPair cX2_faultOfPair 4 (some .int), .fieldLink RX2 9 "DetentCabinet" "kinds" "[I", .methodLink RX2 120 yX0_isReal, .static yX0_isReal, .initialized RX0, .code yX0_isReal cX0_isReal 1 (some .boolean)] ++ wsX20)
def wsX2_rod_r1 : List Cond := [Cond.fieldLink RX2 47 "DetentCabinet" "fault" "I", Cond.fieldLink RX2 64 "DetentCabinet" "rodCount" "I", Cond.fieldLink RX2 23 "DetentCabinet" "rodSorts" "[I", Cond.fieldLink RX2 26 "DetentCabinet" "rodFroms" "[I", Cond.fieldLink RX2 29 "DetentCabinet" "rodTos" "[I", Cond.methodLink RX2 60 yX2_faultOfRod, Cond.instanceMethod yX2_faultOfRod, Cond.selects RX2 yX2_faultOfRod yX2_faultOfRod, Cond.initialized RX2, Cond.code yX2_faultOfRod cX2_faultOfRod 5 (some .int), Cond.methodLink RX2 114 yX2_isSort, Cond.static yX2_isSort, Cond.code yX2_isSort cX2_isSort 1 (some .boolean), Cond.methodLink RX2 103 yX2_isDial, Cond.instanceMethod yX2_isDial, Cond.selects RX2 yX2_isDial yX2_isDial, Cond.code yX2_isDial cX2_isDial 2 (some .boolean), Cond.fieldLink RX2 51 "DetentCabinet" "dialCount" "I", Cond.methodLink RX2 117 yX2_faultOfPair, Cond.instanceMethod yX2_faultOfPair, Cond.selects RX2 yX2_faultOfPair yX2_faultOfPair, Cond.code yX2_faultOfPair cX2_faultOfPair 4 (some .int), Cond.fieldLink RX2 9 "DetentCabinet" "kinds" "[I", Cond.methodLink RX2 120 yX0_isReal]
def wsX2_rod_r2 : List Cond := [Cond.static yX0_isReal, Cond.initialized RX0, Cond.code yX0_isReal cX0_isReal 1 (some .boolean)]
def wsX2_rod : List Cond := .code yX2_rod cX2_rod 5 (some .int) :: ((wsX2_rod_r1 ++ wsX2_rod_r2) ++ wsX20)
def wsX2_faultOfSet : List Cond := .code yX2_faultOfSet cX2_faultOfSet 4 (some .int) :: ([.fieldLink RX2 9 "DetentCabinet" "kinds" "[I", .methodLink RX2 103 yX2_isDial, .instanceMethod yX2_isDial, .selects RX2 yX2_isDial yX2_isDial, .initialized RX2, .code yX2_isDial cX2_isDial 2 (some .boolean), .fieldLink RX2 51 "DetentCabinet" "dialCount" "I", .methodLink RX2 110 yX0_isOfKind, .static yX0_isOfKind, .initialized RX0, .code yX0_isOfKind cX0_isOfKind 4 (some .boolean), .constantLong RX0 11 (-2147483648), .constantLong RX0 13 (2147483647), .constantLong RX0 17 (2139095040), .constantLong RX0 19 (9223372036854775807), .constantLong RX0 21 (9218868437227405312)] ++ wsX20)
def wsX2_move : List Cond := .code yX2_move cX2_move 4 none :: ([.fieldLink RX2 123 "DetentCabinet" "movesOfCall" "I", .fieldLink RX2 39 "DetentCabinet" "steps" "LDetentCabinet$Steps;", .fieldLink RX2 20 "DetentCabinet" "values" "[J", .fieldLink RX2 51 "DetentCabinet" "dialCount" "I", .fieldLink RX2 107 "DetentCabinet" "movesInAll" "I", .methodLink RX2 134 yX1_keep, .instanceMethod yX1_keep, .selects RX1 yX1_keep yX1_keep, .initialized RX1, .code yX1_keep cX1_keep 4 none, .fieldLink RX1 19 "DetentCabinet$Steps" "held" "I", .fieldLink RX1 23 "DetentCabinet$Steps" "earliest" "I", .fieldLink RX1 15 "DetentCabinet$Steps" "dialsAhead" "[I", .fieldLink RX1 9 "DetentCabinet$Steps" "valuesAhead" "[J", .methodLink RX1 26 arraycopyName, .native arraycopyName, .static arraycopyName, .initialized "java/lang/System"] ++ wsX20 ++ wsX10)
def wsX2_gift_r1 : List Cond := [Cond.fieldLink RX2 9 "DetentCabinet" "kinds" "[I", Cond.fieldLink RX2 20 "DetentCabinet" "values" "[J", Cond.methodLink RX2 138 yX0_greater, Cond.static yX0_greater, Cond.initialized RX0, Cond.code yX0_greater cX0_greater 5 (some .long), Cond.methodLink RX0 27 yX0_compared, Cond.static yX0_compared, Cond.code yX0_compared cX0_compared 9 (some .int), Cond.methodLink RX0 23 yX0_rank, Cond.static yX0_rank, Cond.code yX0_rank cX0_rank 3 (some .long), Cond.methodLink RX0 73 yX0_isReal, Cond.static yX0_isReal, Cond.code yX0_isReal cX0_isReal 1 (some .boolean), Cond.methodLink RX0 47 yX0_sizeBits, Cond.static yX0_sizeBits, Cond.code yX0_sizeBits cX0_sizeBits 1 (some .long), Cond.constantLong RX0 13 (2147483647), Cond.constantLong RX0 19 (9223372036854775807), Cond.methodLink RX2 142 yX0_less, Cond.static yX0_less, Cond.code yX0_less cX0_less 5 (some .long), Cond.methodLink RX2 145 yX0_signed]
def wsX2_gift_r2 : List Cond := [Cond.static yX0_signed, Cond.code yX0_signed cX0_signed 7 (some .long), Cond.constantLong RX0 51 (-1), Cond.methodLink RX2 148 yX0_sizeOf, Cond.static yX0_sizeOf, Cond.code yX0_sizeOf cX0_sizeOf 3 (some .long), Cond.methodLink RX0 38 Lib.Math.abs.name, Cond.static Lib.Math.abs.name, Cond.initialized "java/lang/Math", Cond.code Lib.Math.abs.name Lib.Math.abs.code 1 (some .int), Cond.methodLink RX0 44 Lib.MathLoose.abs_long.x, Cond.static Lib.MathLoose.abs_long.x, Cond.code Lib.MathLoose.abs_long.x Lib.MathLoose.abs_long.code 2 (some .long)]
def wsX2_gift : List Cond := .code yX2_gift cX2_gift 5 (some .long) :: ((wsX2_gift_r1 ++ wsX2_gift_r2) ++ wsX20)
def wsX2_gets_r1 : List Cond := [Cond.fieldLink RX2 9 "DetentCabinet" "kinds" "[I", Cond.fieldLink RX2 13 "DetentCabinet" "lows" "[J", Cond.fieldLink RX2 17 "DetentCabinet" "highs" "[J", Cond.fieldLink RX2 20 "DetentCabinet" "values" "[J", Cond.fieldLink RX2 64 "DetentCabinet" "rodCount" "I", Cond.fieldLink RX2 26 "DetentCabinet" "rodFroms" "[I", Cond.fieldLink RX2 32 "DetentCabinet" "rodGone" "[Z", Cond.fieldLink RX2 29 "DetentCabinet" "rodTos" "[I", Cond.fieldLink RX2 23 "DetentCabinet" "rodSorts" "[I", Cond.methodLink RX2 54 yX0_fitted, Cond.static yX0_fitted, Cond.initialized RX0, Cond.code yX0_fitted cX0_fitted 7 (some .long), Cond.methodLink RX0 31 yX0_less, Cond.static yX0_less, Cond.code yX0_less cX0_less 5 (some .long), Cond.methodLink RX0 27 yX0_compared, Cond.static yX0_compared, Cond.code yX0_compared cX0_compared 9 (some .int), Cond.methodLink RX0 23 yX0_rank, Cond.static yX0_rank, Cond.code yX0_rank cX0_rank 3 (some .long), Cond.methodLink RX0 73 yX0_isReal, Cond.static yX0_isReal]
def wsX2_gets_r2 : List Cond := [Cond.code yX0_isReal cX0_isReal 1 (some .boolean), Cond.methodLink RX0 47 yX0_sizeBits, Cond.static yX0_sizeBits, Cond.code yX0_sizeBits cX0_sizeBits 1 (some .long), Cond.constantLong RX0 13 (2147483647), Cond.constantLong RX0 19 (9223372036854775807), Cond.methodLink RX0 35 yX0_greater, Cond.static yX0_greater, Cond.code yX0_greater cX0_greater 5 (some .long), Cond.methodLink RX2 130 yX2_move, Cond.instanceMethod yX2_move, Cond.selects RX2 yX2_move yX2_move, Cond.initialized RX2, Cond.code yX2_move cX2_move 4 none, Cond.fieldLink RX2 123 "DetentCabinet" "movesOfCall" "I", Cond.fieldLink RX2 39 "DetentCabinet" "steps" "LDetentCabinet$Steps;", Cond.fieldLink RX2 51 "DetentCabinet" "dialCount" "I", Cond.fieldLink RX2 107 "DetentCabinet" "movesInAll" "I", Cond.methodLink RX2 134 yX1_keep, Cond.instanceMethod yX1_keep, Cond.selects RX1 yX1_keep yX1_keep, Cond.initialized RX1, Cond.code yX1_keep cX1_keep 4 none, Cond.fieldLink RX1 19 "DetentCabinet$Steps" "held" "I"]
def wsX2_gets_r3 : List Cond := [Cond.fieldLink RX1 23 "DetentCabinet$Steps" "earliest" "I", Cond.fieldLink RX1 15 "DetentCabinet$Steps" "dialsAhead" "[I", Cond.fieldLink RX1 9 "DetentCabinet$Steps" "valuesAhead" "[J", Cond.methodLink RX1 26 arraycopyName, Cond.native arraycopyName, Cond.static arraycopyName, Cond.initialized "java/lang/System", Cond.methodLink RX2 85 yX2_gift, Cond.instanceMethod yX2_gift, Cond.selects RX2 yX2_gift yX2_gift, Cond.code yX2_gift cX2_gift 5 (some .long), Cond.methodLink RX2 138 yX0_greater, Cond.methodLink RX2 142 yX0_less, Cond.methodLink RX2 145 yX0_signed, Cond.static yX0_signed, Cond.code yX0_signed cX0_signed 7 (some .long), Cond.constantLong RX0 51 (-1), Cond.methodLink RX2 148 yX0_sizeOf, Cond.static yX0_sizeOf, Cond.code yX0_sizeOf cX0_sizeOf 3 (some .long), Cond.methodLink RX0 38 Lib.Math.abs.name, Cond.static Lib.Math.abs.name, Cond.initialized "java/lang/Math", Cond.code Lib.Math.abs.name Lib.Math.abs.code 1 (some .int)]
def wsX2_gets_r4 : List Cond := [Cond.methodLink RX0 44 Lib.MathLoose.abs_long.x, Cond.static Lib.MathLoose.abs_long.x, Cond.code Lib.MathLoose.abs_long.x Lib.MathLoose.abs_long.code 2 (some .long), Cond.methodLink RX2 126 yX2_gets, Cond.instanceMethod yX2_gets, Cond.selects RX2 yX2_gets yX2_gets]
def wsX2_gets : List Cond := .code yX2_gets cX2_gets 8 none :: ((wsX2_gets_r1 ++ (wsX2_gets_r2 ++ (wsX2_gets_r3 ++ wsX2_gets_r4))) ++ wsX20 ++ wsX10)
def wsX2_movesWhenGiven_r1 : List Cond := [Cond.fieldLink RX2 64 "DetentCabinet" "rodCount" "I", Cond.fieldLink RX2 32 "DetentCabinet" "rodGone" "[Z", Cond.fieldLink RX2 123 "DetentCabinet" "movesOfCall" "I", Cond.methodLink RX2 126 yX2_gets, Cond.instanceMethod yX2_gets, Cond.selects RX2 yX2_gets yX2_gets, Cond.initialized RX2, Cond.code yX2_gets cX2_gets 8 none, Cond.fieldLink RX2 9 "DetentCabinet" "kinds" "[I", Cond.fieldLink RX2 13 "DetentCabinet" "lows" "[J", Cond.fieldLink RX2 17 "DetentCabinet" "highs" "[J", Cond.fieldLink RX2 20 "DetentCabinet" "values" "[J", Cond.fieldLink RX2 26 "DetentCabinet" "rodFroms" "[I", Cond.fieldLink RX2 29 "DetentCabinet" "rodTos" "[I", Cond.fieldLink RX2 23 "DetentCabinet" "rodSorts" "[I", Cond.methodLink RX2 54 yX0_fitted, Cond.static yX0_fitted, Cond.initialized RX0, Cond.code yX0_fitted cX0_fitted 7 (some .long), Cond.methodLink RX0 31 yX0_less, Cond.static yX0_less, Cond.code yX0_less cX0_less 5 (some .long), Cond.methodLink RX0 27 yX0_compared, Cond.static yX0_compared]
def wsX2_movesWhenGiven_r2 : List Cond := [Cond.code yX0_compared cX0_compared 9 (some .int), Cond.methodLink RX0 23 yX0_rank, Cond.static yX0_rank, Cond.code yX0_rank cX0_rank 3 (some .long), Cond.methodLink RX0 73 yX0_isReal, Cond.static yX0_isReal, Cond.code yX0_isReal cX0_isReal 1 (some .boolean), Cond.methodLink RX0 47 yX0_sizeBits, Cond.static yX0_sizeBits, Cond.code yX0_sizeBits cX0_sizeBits 1 (some .long), Cond.constantLong RX0 13 (2147483647), Cond.constantLong RX0 19 (9223372036854775807), Cond.methodLink RX0 35 yX0_greater, Cond.static yX0_greater, Cond.code yX0_greater cX0_greater 5 (some .long), Cond.methodLink RX2 130 yX2_move, Cond.instanceMethod yX2_move, Cond.selects RX2 yX2_move yX2_move, Cond.code yX2_move cX2_move 4 none, Cond.fieldLink RX2 39 "DetentCabinet" "steps" "LDetentCabinet$Steps;", Cond.fieldLink RX2 51 "DetentCabinet" "dialCount" "I", Cond.fieldLink RX2 107 "DetentCabinet" "movesInAll" "I", Cond.methodLink RX2 134 yX1_keep, Cond.instanceMethod yX1_keep]
def wsX2_movesWhenGiven_r3 : List Cond := [Cond.selects RX1 yX1_keep yX1_keep, Cond.initialized RX1, Cond.code yX1_keep cX1_keep 4 none, Cond.fieldLink RX1 19 "DetentCabinet$Steps" "held" "I", Cond.fieldLink RX1 23 "DetentCabinet$Steps" "earliest" "I", Cond.fieldLink RX1 15 "DetentCabinet$Steps" "dialsAhead" "[I", Cond.fieldLink RX1 9 "DetentCabinet$Steps" "valuesAhead" "[J", Cond.methodLink RX1 26 arraycopyName, Cond.native arraycopyName, Cond.static arraycopyName, Cond.initialized "java/lang/System", Cond.methodLink RX2 85 yX2_gift, Cond.instanceMethod yX2_gift, Cond.selects RX2 yX2_gift yX2_gift, Cond.code yX2_gift cX2_gift 5 (some .long), Cond.methodLink RX2 138 yX0_greater, Cond.methodLink RX2 142 yX0_less, Cond.methodLink RX2 145 yX0_signed, Cond.static yX0_signed, Cond.code yX0_signed cX0_signed 7 (some .long), Cond.constantLong RX0 51 (-1), Cond.methodLink RX2 148 yX0_sizeOf, Cond.static yX0_sizeOf, Cond.code yX0_sizeOf cX0_sizeOf 3 (some .long)]
def wsX2_movesWhenGiven_r4 : List Cond := [Cond.methodLink RX0 38 Lib.Math.abs.name, Cond.static Lib.Math.abs.name, Cond.initialized "java/lang/Math", Cond.code Lib.Math.abs.name Lib.Math.abs.code 1 (some .int), Cond.methodLink RX0 44 Lib.MathLoose.abs_long.x, Cond.static Lib.MathLoose.abs_long.x, Cond.code Lib.MathLoose.abs_long.x Lib.MathLoose.abs_long.code 2 (some .long)]
def wsX2_movesWhenGiven : List Cond := .code yX2_movesWhenGiven cX2_movesWhenGiven 5 (some .int) :: ((wsX2_movesWhenGiven_r1 ++ (wsX2_movesWhenGiven_r2 ++ (wsX2_movesWhenGiven_r3 ++ wsX2_movesWhenGiven_r4))) ++ wsX20 ++ wsX10)
def wsX2_set_r1 : List Cond := [Cond.fieldLink RX2 47 "DetentCabinet" "fault" "I", Cond.methodLink RX2 67 yX2_faultOfSet, Cond.instanceMethod yX2_faultOfSet, Cond.selects RX2 yX2_faultOfSet yX2_faultOfSet, Cond.initialized RX2, Cond.code yX2_faultOfSet cX2_faultOfSet 4 (some .int), Cond.fieldLink RX2 9 "DetentCabinet" "kinds" "[I", Cond.methodLink RX2 103 yX2_isDial, Cond.instanceMethod yX2_isDial, Cond.selects RX2 yX2_isDial yX2_isDial, Cond.code yX2_isDial cX2_isDial 2 (some .boolean), Cond.fieldLink RX2 51 "DetentCabinet" "dialCount" "I", Cond.methodLink RX2 110 yX0_isOfKind, Cond.static yX0_isOfKind, Cond.initialized RX0, Cond.code yX0_isOfKind cX0_isOfKind 4 (some .boolean), Cond.constantLong RX0 11 (-2147483648), Cond.constantLong RX0 13 (2147483647), Cond.constantLong RX0 17 (2139095040), Cond.constantLong RX0 19 (9223372036854775807), Cond.constantLong RX0 21 (9218868437227405312), Cond.methodLink RX2 71 yX2_movesWhenGiven, Cond.instanceMethod yX2_movesWhenGiven, Cond.selects RX2 yX2_movesWhenGiven yX2_movesWhenGiven]
def wsX2_set_r2 : List Cond := [Cond.code yX2_movesWhenGiven cX2_movesWhenGiven 5 (some .int), Cond.fieldLink RX2 64 "DetentCabinet" "rodCount" "I", Cond.fieldLink RX2 32 "DetentCabinet" "rodGone" "[Z", Cond.fieldLink RX2 123 "DetentCabinet" "movesOfCall" "I", Cond.methodLink RX2 126 yX2_gets, Cond.instanceMethod yX2_gets, Cond.selects RX2 yX2_gets yX2_gets, Cond.code yX2_gets cX2_gets 8 none, Cond.fieldLink RX2 13 "DetentCabinet" "lows" "[J", Cond.fieldLink RX2 17 "DetentCabinet" "highs" "[J", Cond.fieldLink RX2 20 "DetentCabinet" "values" "[J", Cond.fieldLink RX2 26 "DetentCabinet" "rodFroms" "[I", Cond.fieldLink RX2 29 "DetentCabinet" "rodTos" "[I", Cond.fieldLink RX2 23 "DetentCabinet" "rodSorts" "[I", Cond.methodLink RX2 54 yX0_fitted, Cond.static yX0_fitted, Cond.code yX0_fitted cX0_fitted 7 (some .long), Cond.methodLink RX0 31 yX0_less, Cond.static yX0_less, Cond.code yX0_less cX0_less 5 (some .long), Cond.methodLink RX0 27 yX0_compared, Cond.static yX0_compared, Cond.code yX0_compared cX0_compared 9 (some .int), Cond.methodLink RX0 23 yX0_rank]
def wsX2_set_r3 : List Cond := [Cond.static yX0_rank, Cond.code yX0_rank cX0_rank 3 (some .long), Cond.methodLink RX0 73 yX0_isReal, Cond.static yX0_isReal, Cond.code yX0_isReal cX0_isReal 1 (some .boolean), Cond.methodLink RX0 47 yX0_sizeBits, Cond.static yX0_sizeBits, Cond.code yX0_sizeBits cX0_sizeBits 1 (some .long), Cond.methodLink RX0 35 yX0_greater, Cond.static yX0_greater, Cond.code yX0_greater cX0_greater 5 (some .long), Cond.methodLink RX2 130 yX2_move, Cond.instanceMethod yX2_move, Cond.selects RX2 yX2_move yX2_move, Cond.code yX2_move cX2_move 4 none, Cond.fieldLink RX2 39 "DetentCabinet" "steps" "LDetentCabinet$Steps;", Cond.fieldLink RX2 107 "DetentCabinet" "movesInAll" "I", Cond.methodLink RX2 134 yX1_keep, Cond.instanceMethod yX1_keep, Cond.selects RX1 yX1_keep yX1_keep, Cond.initialized RX1, Cond.code yX1_keep cX1_keep 4 none, Cond.fieldLink RX1 19 "DetentCabinet$Steps" "held" "I", Cond.fieldLink RX1 23 "DetentCabinet$Steps" "earliest" "I"]
def wsX2_set_r4 : List Cond := [Cond.fieldLink RX1 15 "DetentCabinet$Steps" "dialsAhead" "[I", Cond.fieldLink RX1 9 "DetentCabinet$Steps" "valuesAhead" "[J", Cond.methodLink RX1 26 arraycopyName, Cond.native arraycopyName, Cond.static arraycopyName, Cond.initialized "java/lang/System", Cond.methodLink RX2 85 yX2_gift, Cond.instanceMethod yX2_gift, Cond.selects RX2 yX2_gift yX2_gift, Cond.code yX2_gift cX2_gift 5 (some .long), Cond.methodLink RX2 138 yX0_greater, Cond.methodLink RX2 142 yX0_less, Cond.methodLink RX2 145 yX0_signed, Cond.static yX0_signed, Cond.code yX0_signed cX0_signed 7 (some .long), Cond.constantLong RX0 51 (-1), Cond.methodLink RX2 148 yX0_sizeOf, Cond.static yX0_sizeOf, Cond.code yX0_sizeOf cX0_sizeOf 3 (some .long), Cond.methodLink RX0 38 Lib.Math.abs.name, Cond.static Lib.Math.abs.name, Cond.initialized "java/lang/Math", Cond.code Lib.Math.abs.name Lib.Math.abs.code 1 (some .int), Cond.methodLink RX0 44 Lib.MathLoose.abs_long.x]
def wsX2_set_r5 : List Cond := [Cond.static Lib.MathLoose.abs_long.x, Cond.code Lib.MathLoose.abs_long.x Lib.MathLoose.abs_long.code 2 (some .long)]
def wsX2_set : List Cond := .code yX2_set cX2_set 4 (some .int) :: ((wsX2_set_r1 ++ (wsX2_set_r2 ++ (wsX2_set_r3 ++ (wsX2_set_r4 ++ wsX2_set_r5)))) ++ wsX20 ++ wsX10)
def wsX2_faultOfTurn : List Cond := .code yX2_faultOfTurn cX2_faultOfTurn 4 (some .int) :: ([.fieldLink RX2 9 "DetentCabinet" "kinds" "[I", .methodLink RX2 103 yX2_isDial, .instanceMethod yX2_isDial, .selects RX2 yX2_isDial yX2_isDial, .initialized RX2, .code yX2_isDial cX2_isDial 2 (some .boolean), .fieldLink RX2 51 "DetentCabinet" "dialCount" "I", .methodLink RX2 120 yX0_isReal, .static yX0_isReal, .initialized RX0, .code yX0_isReal cX0_isReal 1 (some .boolean)] ++ wsX20)
def wsX2_turn_r1 : List Cond := [Cond.fieldLink RX2 47 "DetentCabinet" "fault" "I", Cond.fieldLink RX2 9 "DetentCabinet" "kinds" "[I", Cond.fieldLink RX2 20 "DetentCabinet" "values" "[J", Cond.methodLink RX2 74 yX2_faultOfTurn, Cond.instanceMethod yX2_faultOfTurn, Cond.selects RX2 yX2_faultOfTurn yX2_faultOfTurn, Cond.initialized RX2, Cond.code yX2_faultOfTurn cX2_faultOfTurn 4 (some .int), Cond.methodLink RX2 103 yX2_isDial, Cond.instanceMethod yX2_isDial, Cond.selects RX2 yX2_isDial yX2_isDial, Cond.code yX2_isDial cX2_isDial 2 (some .boolean), Cond.fieldLink RX2 51 "DetentCabinet" "dialCount" "I", Cond.methodLink RX2 120 yX0_isReal, Cond.static yX0_isReal, Cond.initialized RX0, Cond.code yX0_isReal cX0_isReal 1 (some .boolean), Cond.methodLink RX2 78 yX0_turned, Cond.static yX0_turned, Cond.code yX0_turned cX0_turned 4 (some .long), Cond.methodLink RX0 53 yX0_sizeOf, Cond.static yX0_sizeOf, Cond.code yX0_sizeOf cX0_sizeOf 3 (some .long), Cond.methodLink RX0 38 Lib.Math.abs.name]
def wsX2_turn_r2 : List Cond := [Cond.static Lib.Math.abs.name, Cond.initialized "java/lang/Math", Cond.code Lib.Math.abs.name Lib.Math.abs.code 1 (some .int), Cond.methodLink RX0 44 Lib.MathLoose.abs_long.x, Cond.static Lib.MathLoose.abs_long.x, Cond.code Lib.MathLoose.abs_long.x Lib.MathLoose.abs_long.code 2 (some .long), Cond.methodLink RX0 47 yX0_sizeBits, Cond.static yX0_sizeBits, Cond.code yX0_sizeBits cX0_sizeBits 1 (some .long), Cond.constantLong RX0 13 (2147483647), Cond.constantLong RX0 19 (9223372036854775807), Cond.methodLink RX0 56 yX0_oneOf, Cond.static yX0_oneOf, Cond.code yX0_oneOf cX0_oneOf 1 (some .long), Cond.constantLong RX0 77 (127), Cond.constantLong RX0 79 (1023), Cond.methodLink RX0 66 yX0_placesOf, Cond.static yX0_placesOf, Cond.code yX0_placesOf cX0_placesOf 1 (some .int), Cond.methodLink RX0 59 yX0_signed, Cond.static yX0_signed, Cond.code yX0_signed cX0_signed 7 (some .long), Cond.constantLong RX0 51 (-1), Cond.methodLink RX0 62 yX0_wholeSize]
def wsX2_turn_r3 : List Cond := [Cond.static yX0_wholeSize, Cond.code yX0_wholeSize cX0_wholeSize 21 (some .long), Cond.methodLink RX0 69 yX0_isAway, Cond.static yX0_isAway, Cond.code yX0_isAway cX0_isAway 4 (some .boolean), Cond.methodLink RX2 71 yX2_movesWhenGiven, Cond.instanceMethod yX2_movesWhenGiven, Cond.selects RX2 yX2_movesWhenGiven yX2_movesWhenGiven, Cond.code yX2_movesWhenGiven cX2_movesWhenGiven 5 (some .int), Cond.fieldLink RX2 64 "DetentCabinet" "rodCount" "I", Cond.fieldLink RX2 32 "DetentCabinet" "rodGone" "[Z", Cond.fieldLink RX2 123 "DetentCabinet" "movesOfCall" "I", Cond.methodLink RX2 126 yX2_gets, Cond.instanceMethod yX2_gets, Cond.selects RX2 yX2_gets yX2_gets, Cond.code yX2_gets cX2_gets 8 none, Cond.fieldLink RX2 13 "DetentCabinet" "lows" "[J", Cond.fieldLink RX2 17 "DetentCabinet" "highs" "[J", Cond.fieldLink RX2 26 "DetentCabinet" "rodFroms" "[I", Cond.fieldLink RX2 29 "DetentCabinet" "rodTos" "[I", Cond.fieldLink RX2 23 "DetentCabinet" "rodSorts" "[I", Cond.methodLink RX2 54 yX0_fitted, Cond.static yX0_fitted, Cond.code yX0_fitted cX0_fitted 7 (some .long)]
def wsX2_turn_r4 : List Cond := [Cond.methodLink RX0 31 yX0_less, Cond.static yX0_less, Cond.code yX0_less cX0_less 5 (some .long), Cond.methodLink RX0 27 yX0_compared, Cond.static yX0_compared, Cond.code yX0_compared cX0_compared 9 (some .int), Cond.methodLink RX0 23 yX0_rank, Cond.static yX0_rank, Cond.code yX0_rank cX0_rank 3 (some .long), Cond.methodLink RX0 73 yX0_isReal, Cond.methodLink RX0 35 yX0_greater, Cond.static yX0_greater, Cond.code yX0_greater cX0_greater 5 (some .long), Cond.methodLink RX2 130 yX2_move, Cond.instanceMethod yX2_move, Cond.selects RX2 yX2_move yX2_move, Cond.code yX2_move cX2_move 4 none, Cond.fieldLink RX2 39 "DetentCabinet" "steps" "LDetentCabinet$Steps;", Cond.fieldLink RX2 107 "DetentCabinet" "movesInAll" "I", Cond.methodLink RX2 134 yX1_keep, Cond.instanceMethod yX1_keep, Cond.selects RX1 yX1_keep yX1_keep, Cond.initialized RX1, Cond.code yX1_keep cX1_keep 4 none]
def wsX2_turn_r5 : List Cond := [Cond.fieldLink RX1 19 "DetentCabinet$Steps" "held" "I", Cond.fieldLink RX1 23 "DetentCabinet$Steps" "earliest" "I", Cond.fieldLink RX1 15 "DetentCabinet$Steps" "dialsAhead" "[I", Cond.fieldLink RX1 9 "DetentCabinet$Steps" "valuesAhead" "[J", Cond.methodLink RX1 26 arraycopyName, Cond.native arraycopyName, Cond.static arraycopyName, Cond.initialized "java/lang/System", Cond.methodLink RX2 85 yX2_gift, Cond.instanceMethod yX2_gift, Cond.selects RX2 yX2_gift yX2_gift, Cond.code yX2_gift cX2_gift 5 (some .long), Cond.methodLink RX2 138 yX0_greater, Cond.methodLink RX2 142 yX0_less, Cond.methodLink RX2 145 yX0_signed, Cond.methodLink RX2 148 yX0_sizeOf]
def wsX2_turn : List Cond := .code yX2_turn cX2_turn 3 (some .int) :: ((wsX2_turn_r1 ++ (wsX2_turn_r2 ++ (wsX2_turn_r3 ++ (wsX2_turn_r4 ++ wsX2_turn_r5)))) ++ wsX20 ++ wsX10)
def wsX2_faultOfTake : List Cond := .code yX2_faultOfTake cX2_faultOfTake 4 (some .int) :: ([.methodLink RX2 103 yX2_isDial, .instanceMethod yX2_isDial, .selects RX2 yX2_isDial yX2_isDial, .initialized RX2, .code yX2_isDial cX2_isDial 2 (some .boolean), .fieldLink RX2 51 "DetentCabinet" "dialCount" "I", .methodLink RX2 114 yX2_isSort, .static yX2_isSort, .code yX2_isSort cX2_isSort 1 (some .boolean), .methodLink RX2 117 yX2_faultOfPair, .instanceMethod yX2_faultOfPair, .selects RX2 yX2_faultOfPair yX2_faultOfPair, .code yX2_faultOfPair cX2_faultOfPair 4 (some .int), .fieldLink RX2 9 "DetentCabinet" "kinds" "[I", .methodLink RX2 120 yX0_isReal, .static yX0_isReal, .initialized RX0, .code yX0_isReal cX0_isReal 1 (some .boolean)] ++ wsX20)
def wsX2_take_r1 : List Cond := [Cond.fieldLink RX2 47 "DetentCabinet" "fault" "I", Cond.methodLink RX2 82 yX2_faultOfTake, Cond.instanceMethod yX2_faultOfTake, Cond.selects RX2 yX2_faultOfTake yX2_faultOfTake, Cond.initialized RX2, Cond.code yX2_faultOfTake cX2_faultOfTake 4 (some .int), Cond.methodLink RX2 103 yX2_isDial, Cond.instanceMethod yX2_isDial, Cond.selects RX2 yX2_isDial yX2_isDial, Cond.code yX2_isDial cX2_isDial 2 (some .boolean), Cond.fieldLink RX2 51 "DetentCabinet" "dialCount" "I", Cond.methodLink RX2 114 yX2_isSort, Cond.static yX2_isSort, Cond.code yX2_isSort cX2_isSort 1 (some .boolean), Cond.methodLink RX2 117 yX2_faultOfPair, Cond.instanceMethod yX2_faultOfPair, Cond.selects RX2 yX2_faultOfPair yX2_faultOfPair, Cond.code yX2_faultOfPair cX2_faultOfPair 4 (some .int), Cond.fieldLink RX2 9 "DetentCabinet" "kinds" "[I", Cond.methodLink RX2 120 yX0_isReal, Cond.static yX0_isReal, Cond.initialized RX0, Cond.code yX0_isReal cX0_isReal 1 (some .boolean), Cond.methodLink RX2 85 yX2_gift]
def wsX2_take_r2 : List Cond := [Cond.instanceMethod yX2_gift, Cond.selects RX2 yX2_gift yX2_gift, Cond.code yX2_gift cX2_gift 5 (some .long), Cond.fieldLink RX2 20 "DetentCabinet" "values" "[J", Cond.methodLink RX2 138 yX0_greater, Cond.static yX0_greater, Cond.code yX0_greater cX0_greater 5 (some .long), Cond.methodLink RX0 27 yX0_compared, Cond.static yX0_compared, Cond.code yX0_compared cX0_compared 9 (some .int), Cond.methodLink RX0 23 yX0_rank, Cond.static yX0_rank, Cond.code yX0_rank cX0_rank 3 (some .long), Cond.methodLink RX0 73 yX0_isReal, Cond.methodLink RX0 47 yX0_sizeBits, Cond.static yX0_sizeBits, Cond.code yX0_sizeBits cX0_sizeBits 1 (some .long), Cond.constantLong RX0 13 (2147483647), Cond.constantLong RX0 19 (9223372036854775807), Cond.methodLink RX2 142 yX0_less, Cond.static yX0_less, Cond.code yX0_less cX0_less 5 (some .long), Cond.methodLink RX2 145 yX0_signed, Cond.static yX0_signed]
def wsX2_take_r3 : List Cond := [Cond.code yX0_signed cX0_signed 7 (some .long), Cond.constantLong RX0 51 (-1), Cond.methodLink RX2 148 yX0_sizeOf, Cond.static yX0_sizeOf, Cond.code yX0_sizeOf cX0_sizeOf 3 (some .long), Cond.methodLink RX0 38 Lib.Math.abs.name, Cond.static Lib.Math.abs.name, Cond.initialized "java/lang/Math", Cond.code Lib.Math.abs.name Lib.Math.abs.code 1 (some .int), Cond.methodLink RX0 44 Lib.MathLoose.abs_long.x, Cond.static Lib.MathLoose.abs_long.x, Cond.code Lib.MathLoose.abs_long.x Lib.MathLoose.abs_long.code 2 (some .long), Cond.methodLink RX2 71 yX2_movesWhenGiven, Cond.instanceMethod yX2_movesWhenGiven, Cond.selects RX2 yX2_movesWhenGiven yX2_movesWhenGiven, Cond.code yX2_movesWhenGiven cX2_movesWhenGiven 5 (some .int), Cond.fieldLink RX2 64 "DetentCabinet" "rodCount" "I", Cond.fieldLink RX2 32 "DetentCabinet" "rodGone" "[Z", Cond.fieldLink RX2 123 "DetentCabinet" "movesOfCall" "I", Cond.methodLink RX2 126 yX2_gets, Cond.instanceMethod yX2_gets, Cond.selects RX2 yX2_gets yX2_gets, Cond.code yX2_gets cX2_gets 8 none, Cond.fieldLink RX2 13 "DetentCabinet" "lows" "[J"]
def wsX2_take_r4 : List Cond := [Cond.fieldLink RX2 17 "DetentCabinet" "highs" "[J", Cond.fieldLink RX2 26 "DetentCabinet" "rodFroms" "[I", Cond.fieldLink RX2 29 "DetentCabinet" "rodTos" "[I", Cond.fieldLink RX2 23 "DetentCabinet" "rodSorts" "[I", Cond.methodLink RX2 54 yX0_fitted, Cond.static yX0_fitted, Cond.code yX0_fitted cX0_fitted 7 (some .long), Cond.methodLink RX0 31 yX0_less, Cond.methodLink RX0 35 yX0_greater, Cond.methodLink RX2 130 yX2_move, Cond.instanceMethod yX2_move, Cond.selects RX2 yX2_move yX2_move, Cond.code yX2_move cX2_move 4 none, Cond.fieldLink RX2 39 "DetentCabinet" "steps" "LDetentCabinet$Steps;", Cond.fieldLink RX2 107 "DetentCabinet" "movesInAll" "I", Cond.methodLink RX2 134 yX1_keep, Cond.instanceMethod yX1_keep, Cond.selects RX1 yX1_keep yX1_keep, Cond.initialized RX1, Cond.code yX1_keep cX1_keep 4 none, Cond.fieldLink RX1 19 "DetentCabinet$Steps" "held" "I", Cond.fieldLink RX1 23 "DetentCabinet$Steps" "earliest" "I", Cond.fieldLink RX1 15 "DetentCabinet$Steps" "dialsAhead" "[I", Cond.fieldLink RX1 9 "DetentCabinet$Steps" "valuesAhead" "[J"]
def wsX2_take_r5 : List Cond := [Cond.methodLink RX1 26 arraycopyName, Cond.native arraycopyName, Cond.static arraycopyName, Cond.initialized "java/lang/System"]
def wsX2_take : List Cond := .code yX2_take cX2_take 4 (some .int) :: ((wsX2_take_r1 ++ (wsX2_take_r2 ++ (wsX2_take_r3 ++ (wsX2_take_r4 ++ wsX2_take_r5)))) ++ wsX20 ++ wsX10)
def wsX2_back : List Cond := .code yX2_back cX2_back 1 (some .int) :: ([.fieldLink RX2 39 "DetentCabinet" "steps" "LDetentCabinet$Steps;", .fieldLink RX2 47 "DetentCabinet" "fault" "I", .fieldLink RX2 20 "DetentCabinet" "values" "[J", .methodLink RX2 89 yX1_held, .instanceMethod yX1_held, .selects RX1 yX1_held yX1_held, .initialized RX1, .code yX1_held cX1_held 1 (some .int), .fieldLink RX1 19 "DetentCabinet$Steps" "held" "I", .methodLink RX2 93 yX1_restoreLatest, .instanceMethod yX1_restoreLatest, .selects RX1 yX1_restoreLatest yX1_restoreLatest, .code yX1_restoreLatest cX1_restoreLatest 7 (some .int), .fieldLink RX1 23 "DetentCabinet$Steps" "earliest" "I", .fieldLink RX1 15 "DetentCabinet$Steps" "dialsAhead" "[I", .fieldLink RX1 9 "DetentCabinet$Steps" "valuesAhead" "[J"] ++ wsX20 ++ wsX10)
def wsX2_faultOfOrder : List Cond := .code yX2_faultOfOrder cX2_faultOfOrder 3 (some .int) :: ([.fieldLink RX2 9 "DetentCabinet" "kinds" "[I", .methodLink RX2 103 yX2_isDial, .instanceMethod yX2_isDial, .selects RX2 yX2_isDial yX2_isDial, .initialized RX2, .code yX2_isDial cX2_isDial 2 (some .boolean), .fieldLink RX2 51 "DetentCabinet" "dialCount" "I"] ++ wsX20)
def wsX2_order_r1 : List Cond := [Cond.fieldLink RX2 47 "DetentCabinet" "fault" "I", Cond.fieldLink RX2 9 "DetentCabinet" "kinds" "[I", Cond.fieldLink RX2 20 "DetentCabinet" "values" "[J", Cond.methodLink RX2 97 yX2_faultOfOrder, Cond.instanceMethod yX2_faultOfOrder, Cond.selects RX2 yX2_faultOfOrder yX2_faultOfOrder, Cond.initialized RX2, Cond.code yX2_faultOfOrder cX2_faultOfOrder 3 (some .int), Cond.methodLink RX2 103 yX2_isDial, Cond.instanceMethod yX2_isDial, Cond.selects RX2 yX2_isDial yX2_isDial, Cond.code yX2_isDial cX2_isDial 2 (some .boolean), Cond.fieldLink RX2 51 "DetentCabinet" "dialCount" "I", Cond.methodLink RX2 100 yX0_compared, Cond.static yX0_compared, Cond.initialized RX0, Cond.code yX0_compared cX0_compared 9 (some .int), Cond.methodLink RX0 23 yX0_rank, Cond.static yX0_rank, Cond.code yX0_rank cX0_rank 3 (some .long), Cond.methodLink RX0 73 yX0_isReal, Cond.static yX0_isReal, Cond.code yX0_isReal cX0_isReal 1 (some .boolean), Cond.methodLink RX0 47 yX0_sizeBits]
def wsX2_order_r2 : List Cond := [Cond.static yX0_sizeBits, Cond.code yX0_sizeBits cX0_sizeBits 1 (some .long), Cond.constantLong RX0 13 (2147483647), Cond.constantLong RX0 19 (9223372036854775807)]
def wsX2_order : List Cond := .code yX2_order cX2_order 3 (some .int) :: ((wsX2_order_r1 ++ wsX2_order_r2) ++ wsX20)
def wsX2_look : List Cond := .code yX2_look cX2_look 3 (some .long) :: ([.fieldLink RX2 20 "DetentCabinet" "values" "[J", .fieldLink RX2 13 "DetentCabinet" "lows" "[J", .fieldLink RX2 17 "DetentCabinet" "highs" "[J", .fieldLink RX2 9 "DetentCabinet" "kinds" "[I", .methodLink RX2 103 yX2_isDial, .instanceMethod yX2_isDial, .selects RX2 yX2_isDial yX2_isDial, .initialized RX2, .code yX2_isDial cX2_isDial 2 (some .boolean), .fieldLink RX2 51 "DetentCabinet" "dialCount" "I"] ++ wsX20)
def wsX2_count : List Cond := .code yX2_count cX2_count 2 (some .int) :: ([.fieldLink RX2 51 "DetentCabinet" "dialCount" "I", .fieldLink RX2 64 "DetentCabinet" "rodCount" "I", .fieldLink RX2 39 "DetentCabinet" "steps" "LDetentCabinet$Steps;", .fieldLink RX2 107 "DetentCabinet" "movesInAll" "I", .fieldLink RX2 47 "DetentCabinet" "fault" "I", .methodLink RX2 89 yX1_held, .instanceMethod yX1_held, .selects RX1 yX1_held yX1_held, .initialized RX1, .code yX1_held cX1_held 1 (some .int), .fieldLink RX1 19 "DetentCabinet$Steps" "held" "I"] ++ wsX20 ++ wsX10)
def wsX3_init : List Cond := .code yX3_init cX3_init 1 none :: ([.methodLink RX3 1 objectInit, .instanceMethod objectInit, .code objectInit ⟨#[0xb1]⟩ 1 none, .arrayClass .int, .fieldLink RX3 7 "DetentCabinetModel" "kind" "[I", .arrayClass .long, .fieldLink RX3 13 "DetentCabinetModel" "value" "[J", .fieldLink RX3 17 "DetentCabinetModel" "low" "[J", .fieldLink RX3 20 "DetentCabinetModel" "high" "[J", .fieldLink RX3 23 "DetentCabinetModel" "sort" "[I", .fieldLink RX3 26 "DetentCabinetModel" "from" "[I", .fieldLink RX3 29 "DetentCabinetModel" "to" "[I", .arrayClass .boolean, .fieldLink RX3 32 "DetentCabinetModel" "gone" "[Z", .fieldLink RX3 36 "DetentCabinetModel" "kept" "[J", .fieldLink RX3 39 "DetentCabinetModel" "ahead" "[J", .fieldLink RX3 42 "DetentCabinetModel" "keptDials" "[I", .fieldLink RX3 45 "DetentCabinetModel" "open" "[I", .fieldLink RX3 48 "DetentCabinetModel" "nextRod" "[I"] ++ wsX30)
def wsX3_isDial : List Cond := .code yX3_isDial cX3_isDial 2 (some .boolean) :: ([.fieldLink RX3 51 "DetentCabinetModel" "dials" "I"] ++ wsX30)
def wsX3_isReal : List Cond := .code yX3_isReal cX3_isReal 2 (some .boolean) :: ([])
def wsX3_refused : List Cond := .code yX3_refused cX3_refused 2 (some .int) :: ([.fieldLink RX3 55 "DetentCabinetModel" "fault" "I"] ++ wsX30)
def wsX3_isInt : List Cond := .code yX3_isInt cX3_isInt 3 (some .boolean) :: ([.constantLong RX3 58 (-2147483648), .constantLong RX3 60 (2147483647)])
def wsX3_isNumber : List Cond := .code yX3_isNumber cX3_isNumber 4 (some .boolean) :: ([.constantLong RX3 62 (9223372036854775807), .constantLong RX3 64 (9218868437227405312), .constantLong RX3 60 (2147483647), .constantLong RX3 70 (2139095040), .methodLink RX3 66 yX3_isInt, .instanceMethod yX3_isInt, .selects RX3 yX3_isInt yX3_isInt, .initialized RX3, .code yX3_isInt cX3_isInt 3 (some .boolean), .constantLong RX3 58 (-2147483648)])
def wsX3_rank : List Cond := .code yX3_rank cX3_rank 4 (some .long) :: ([.constantLong RX3 60 (2147483647), .constantLong RX3 62 (9223372036854775807), .methodLink RX3 72 yX3_isReal, .instanceMethod yX3_isReal, .selects RX3 yX3_isReal yX3_isReal, .initialized RX3, .code yX3_isReal cX3_isReal 2 (some .boolean)])
def wsX3_isAbove : List Cond := .code yX3_isAbove cX3_isAbove 6 (some .boolean) :: ([.methodLink RX3 76 yX3_rank, .instanceMethod yX3_rank, .selects RX3 yX3_rank yX3_rank, .initialized RX3, .code yX3_rank cX3_rank 4 (some .long), .constantLong RX3 60 (2147483647), .constantLong RX3 62 (9223372036854775807), .methodLink RX3 72 yX3_isReal, .instanceMethod yX3_isReal, .selects RX3 yX3_isReal yX3_isReal, .code yX3_isReal cX3_isReal 2 (some .boolean)])
def wsX3_greater : List Cond := .code yX3_greater cX3_greater 6 (some .long) :: ([.methodLink RX3 80 yX3_isAbove, .instanceMethod yX3_isAbove, .selects RX3 yX3_isAbove yX3_isAbove, .initialized RX3, .code yX3_isAbove cX3_isAbove 6 (some .boolean), .methodLink RX3 76 yX3_rank, .instanceMethod yX3_rank, .selects RX3 yX3_rank yX3_rank, .code yX3_rank cX3_rank 4 (some .long), .constantLong RX3 60 (2147483647), .constantLong RX3 62 (9223372036854775807), .methodLink RX3 72 yX3_isReal, .instanceMethod yX3_isReal, .selects RX3 yX3_isReal yX3_isReal, .code yX3_isReal cX3_isReal 2 (some .boolean)])
def wsX3_less : List Cond := .code yX3_less cX3_less 6 (some .long) :: ([.methodLink RX3 80 yX3_isAbove, .instanceMethod yX3_isAbove, .selects RX3 yX3_isAbove yX3_isAbove, .initialized RX3, .code yX3_isAbove cX3_isAbove 6 (some .boolean), .methodLink RX3 76 yX3_rank, .instanceMethod yX3_rank, .selects RX3 yX3_rank yX3_rank, .code yX3_rank cX3_rank 4 (some .long), .constantLong RX3 60 (2147483647), .constantLong RX3 62 (9223372036854775807), .methodLink RX3 72 yX3_isReal, .instanceMethod yX3_isReal, .selects RX3 yX3_isReal yX3_isReal, .code yX3_isReal cX3_isReal 2 (some .boolean)])
def wsX3_plain : List Cond := .code yX3_plain cX3_plain 4 (some .long) :: ([.constantLong RX3 60 (2147483647), .constantLong RX3 62 (9223372036854775807)])
def wsX3_signed : List Cond := .code yX3_signed cX3_signed 6 (some .long) :: ([.constantLong RX3 84 (2147483648), .constantLong RX3 86 (-9223372036854775808)])
def wsX3_sizeOf : List Cond := .code yX3_sizeOf cX3_sizeOf 4 (some .long) :: ([.constantLong RX3 58 (-2147483648), .constantLong RX3 86 (-9223372036854775808), .methodLink RX3 72 yX3_isReal, .instanceMethod yX3_isReal, .selects RX3 yX3_isReal yX3_isReal, .initialized RX3, .code yX3_isReal cX3_isReal 2 (some .boolean), .methodLink RX3 88 yX3_plain, .instanceMethod yX3_plain, .selects RX3 yX3_plain yX3_plain, .code yX3_plain cX3_plain 4 (some .long), .constantLong RX3 60 (2147483647), .constantLong RX3 62 (9223372036854775807)])
def wsX3_one : List Cond := .code yX3_one cX3_one 2 (some .long) :: ([.constantLong RX3 91 (1065353216), .constantLong RX3 93 (4607182418800017408)])
def wsX3_whole : List Cond := .code yX3_whole cX3_whole 18 (some .long) :: ([.methodLink RX3 88 yX3_plain, .instanceMethod yX3_plain, .selects RX3 yX3_plain yX3_plain, .initialized RX3, .code yX3_plain cX3_plain 4 (some .long), .constantLong RX3 60 (2147483647), .constantLong RX3 62 (9223372036854775807), .methodLink RX3 95 yX3_one, .instanceMethod yX3_one, .selects RX3 yX3_one yX3_one, .code yX3_one cX3_one 2 (some .long), .constantLong RX3 91 (1065353216), .constantLong RX3 93 (4607182418800017408), .methodLink RX3 99 yX3_signed, .instanceMethod yX3_signed, .selects RX3 yX3_signed yX3_signed, .code yX3_signed cX3_signed 6 (some .long), .constantLong RX3 84 (2147483648), .constantLong RX3 86 (-9223372036854775808)])
def wsX3_turned_r1 : List Cond := [Cond.methodLink RX3 103 yX3_sizeOf, Cond.instanceMethod yX3_sizeOf, Cond.selects RX3 yX3_sizeOf yX3_sizeOf, Cond.initialized RX3, Cond.code yX3_sizeOf cX3_sizeOf 4 (some .long), Cond.constantLong RX3 58 (-2147483648), Cond.constantLong RX3 86 (-9223372036854775808), Cond.methodLink RX3 72 yX3_isReal, Cond.instanceMethod yX3_isReal, Cond.selects RX3 yX3_isReal yX3_isReal, Cond.code yX3_isReal cX3_isReal 2 (some .boolean), Cond.methodLink RX3 88 yX3_plain, Cond.instanceMethod yX3_plain, Cond.selects RX3 yX3_plain yX3_plain, Cond.code yX3_plain cX3_plain 4 (some .long), Cond.constantLong RX3 60 (2147483647), Cond.constantLong RX3 62 (9223372036854775807), Cond.methodLink RX3 106 yX3_whole, Cond.instanceMethod yX3_whole, Cond.selects RX3 yX3_whole yX3_whole, Cond.code yX3_whole cX3_whole 18 (some .long), Cond.methodLink RX3 95 yX3_one, Cond.instanceMethod yX3_one, Cond.selects RX3 yX3_one yX3_one]
def wsX3_turned_r2 : List Cond := [Cond.code yX3_one cX3_one 2 (some .long), Cond.constantLong RX3 91 (1065353216), Cond.constantLong RX3 93 (4607182418800017408), Cond.methodLink RX3 99 yX3_signed, Cond.instanceMethod yX3_signed, Cond.selects RX3 yX3_signed yX3_signed, Cond.code yX3_signed cX3_signed 6 (some .long), Cond.constantLong RX3 84 (2147483648)]
def wsX3_turned : List Cond := .code yX3_turned cX3_turned 5 (some .long) :: ((wsX3_turned_r1 ++ wsX3_turned_r2))
def wsX3_fitted_r1 : List Cond := [Cond.fieldLink RX3 7 "DetentCabinetModel" "kind" "[I", Cond.fieldLink RX3 17 "DetentCabinetModel" "low" "[J", Cond.fieldLink RX3 20 "DetentCabinetModel" "high" "[J", Cond.methodLink RX3 110 yX3_less, Cond.instanceMethod yX3_less, Cond.selects RX3 yX3_less yX3_less, Cond.initialized RX3, Cond.code yX3_less cX3_less 6 (some .long), Cond.methodLink RX3 80 yX3_isAbove, Cond.instanceMethod yX3_isAbove, Cond.selects RX3 yX3_isAbove yX3_isAbove, Cond.code yX3_isAbove cX3_isAbove 6 (some .boolean), Cond.methodLink RX3 76 yX3_rank, Cond.instanceMethod yX3_rank, Cond.selects RX3 yX3_rank yX3_rank, Cond.code yX3_rank cX3_rank 4 (some .long), Cond.constantLong RX3 60 (2147483647), Cond.constantLong RX3 62 (9223372036854775807), Cond.methodLink RX3 72 yX3_isReal, Cond.instanceMethod yX3_isReal, Cond.selects RX3 yX3_isReal yX3_isReal, Cond.code yX3_isReal cX3_isReal 2 (some .boolean), Cond.methodLink RX3 113 yX3_greater, Cond.instanceMethod yX3_greater]
def wsX3_fitted_r2 : List Cond := [Cond.selects RX3 yX3_greater yX3_greater, Cond.code yX3_greater cX3_greater 6 (some .long)]
def wsX3_fitted : List Cond := .code yX3_fitted cX3_fitted 5 (some .long) :: ((wsX3_fitted_r1 ++ wsX3_fitted_r2) ++ wsX30)
def wsX3_gives_r1 : List Cond := [Cond.fieldLink RX3 7 "DetentCabinetModel" "kind" "[I", Cond.fieldLink RX3 13 "DetentCabinetModel" "value" "[J", Cond.methodLink RX3 113 yX3_greater, Cond.instanceMethod yX3_greater, Cond.selects RX3 yX3_greater yX3_greater, Cond.initialized RX3, Cond.code yX3_greater cX3_greater 6 (some .long), Cond.methodLink RX3 80 yX3_isAbove, Cond.instanceMethod yX3_isAbove, Cond.selects RX3 yX3_isAbove yX3_isAbove, Cond.code yX3_isAbove cX3_isAbove 6 (some .boolean), Cond.methodLink RX3 76 yX3_rank, Cond.instanceMethod yX3_rank, Cond.selects RX3 yX3_rank yX3_rank, Cond.code yX3_rank cX3_rank 4 (some .long), Cond.constantLong RX3 60 (2147483647), Cond.constantLong RX3 62 (9223372036854775807), Cond.methodLink RX3 72 yX3_isReal, Cond.instanceMethod yX3_isReal, Cond.selects RX3 yX3_isReal yX3_isReal, Cond.code yX3_isReal cX3_isReal 2 (some .boolean), Cond.methodLink RX3 110 yX3_less, Cond.instanceMethod yX3_less, Cond.selects RX3 yX3_less yX3_less]
def wsX3_gives_r2 : List Cond := [Cond.code yX3_less cX3_less 6 (some .long), Cond.methodLink RX3 88 yX3_plain, Cond.instanceMethod yX3_plain, Cond.selects RX3 yX3_plain yX3_plain, Cond.code yX3_plain cX3_plain 4 (some .long), Cond.methodLink RX3 99 yX3_signed, Cond.instanceMethod yX3_signed, Cond.selects RX3 yX3_signed yX3_signed, Cond.code yX3_signed cX3_signed 6 (some .long), Cond.constantLong RX3 84 (2147483648), Cond.constantLong RX3 86 (-9223372036854775808), Cond.methodLink RX3 103 yX3_sizeOf, Cond.instanceMethod yX3_sizeOf, Cond.selects RX3 yX3_sizeOf yX3_sizeOf, Cond.code yX3_sizeOf cX3_sizeOf 4 (some .long), Cond.constantLong RX3 58 (-2147483648)]
def wsX3_gives : List Cond := .code yX3_gives cX3_gives 5 (some .long) :: ((wsX3_gives_r1 ++ wsX3_gives_r2) ++ wsX30)
def wsX3_moved_r1 : List Cond := [Cond.fieldLink RX3 13 "DetentCabinetModel" "value" "[J", Cond.fieldLink RX3 119 "DetentCabinetModel" "moves" "I", Cond.methodLink RX3 116 yX3_fitted, Cond.instanceMethod yX3_fitted, Cond.selects RX3 yX3_fitted yX3_fitted, Cond.initialized RX3, Cond.code yX3_fitted cX3_fitted 5 (some .long), Cond.fieldLink RX3 7 "DetentCabinetModel" "kind" "[I", Cond.fieldLink RX3 17 "DetentCabinetModel" "low" "[J", Cond.fieldLink RX3 20 "DetentCabinetModel" "high" "[J", Cond.methodLink RX3 110 yX3_less, Cond.instanceMethod yX3_less, Cond.selects RX3 yX3_less yX3_less, Cond.code yX3_less cX3_less 6 (some .long), Cond.methodLink RX3 80 yX3_isAbove, Cond.instanceMethod yX3_isAbove, Cond.selects RX3 yX3_isAbove yX3_isAbove, Cond.code yX3_isAbove cX3_isAbove 6 (some .boolean), Cond.methodLink RX3 76 yX3_rank, Cond.instanceMethod yX3_rank, Cond.selects RX3 yX3_rank yX3_rank, Cond.code yX3_rank cX3_rank 4 (some .long), Cond.constantLong RX3 60 (2147483647), Cond.constantLong RX3 62 (9223372036854775807)]
def wsX3_moved_r2 : List Cond := [Cond.methodLink RX3 72 yX3_isReal, Cond.instanceMethod yX3_isReal, Cond.selects RX3 yX3_isReal yX3_isReal, Cond.code yX3_isReal cX3_isReal 2 (some .boolean), Cond.methodLink RX3 113 yX3_greater, Cond.instanceMethod yX3_greater, Cond.selects RX3 yX3_greater yX3_greater, Cond.code yX3_greater cX3_greater 6 (some .long)]
def wsX3_moved : List Cond := .code yX3_moved cX3_moved 6 (some .boolean) :: ((wsX3_moved_r1 ++ wsX3_moved_r2) ++ wsX30)
def wsX3_gets_r1 : List Cond := [Cond.fieldLink RX3 45 "DetentCabinetModel" "open" "[I", Cond.fieldLink RX3 48 "DetentCabinetModel" "nextRod" "[I", Cond.fieldLink RX3 126 "DetentCabinetModel" "rods" "I", Cond.fieldLink RX3 26 "DetentCabinetModel" "from" "[I", Cond.fieldLink RX3 32 "DetentCabinetModel" "gone" "[Z", Cond.fieldLink RX3 29 "DetentCabinetModel" "to" "[I", Cond.fieldLink RX3 23 "DetentCabinetModel" "sort" "[I", Cond.methodLink RX3 122 yX3_moved, Cond.instanceMethod yX3_moved, Cond.selects RX3 yX3_moved yX3_moved, Cond.initialized RX3, Cond.code yX3_moved cX3_moved 6 (some .boolean), Cond.fieldLink RX3 13 "DetentCabinetModel" "value" "[J", Cond.fieldLink RX3 119 "DetentCabinetModel" "moves" "I", Cond.methodLink RX3 116 yX3_fitted, Cond.instanceMethod yX3_fitted, Cond.selects RX3 yX3_fitted yX3_fitted, Cond.code yX3_fitted cX3_fitted 5 (some .long), Cond.fieldLink RX3 7 "DetentCabinetModel" "kind" "[I", Cond.fieldLink RX3 17 "DetentCabinetModel" "low" "[J", Cond.fieldLink RX3 20 "DetentCabinetModel" "high" "[J", Cond.methodLink RX3 110 yX3_less, Cond.instanceMethod yX3_less, Cond.selects RX3 yX3_less yX3_less]
def wsX3_gets_r2 : List Cond := [Cond.code yX3_less cX3_less 6 (some .long), Cond.methodLink RX3 80 yX3_isAbove, Cond.instanceMethod yX3_isAbove, Cond.selects RX3 yX3_isAbove yX3_isAbove, Cond.code yX3_isAbove cX3_isAbove 6 (some .boolean), Cond.methodLink RX3 76 yX3_rank, Cond.instanceMethod yX3_rank, Cond.selects RX3 yX3_rank yX3_rank, Cond.code yX3_rank cX3_rank 4 (some .long), Cond.constantLong RX3 60 (2147483647), Cond.constantLong RX3 62 (9223372036854775807), Cond.methodLink RX3 72 yX3_isReal, Cond.instanceMethod yX3_isReal, Cond.selects RX3 yX3_isReal yX3_isReal, Cond.code yX3_isReal cX3_isReal 2 (some .boolean), Cond.methodLink RX3 113 yX3_greater, Cond.instanceMethod yX3_greater, Cond.selects RX3 yX3_greater yX3_greater, Cond.code yX3_greater cX3_greater 6 (some .long), Cond.methodLink RX3 129 yX3_gives, Cond.instanceMethod yX3_gives, Cond.selects RX3 yX3_gives yX3_gives, Cond.code yX3_gives cX3_gives 5 (some .long), Cond.methodLink RX3 88 yX3_plain]
def wsX3_gets_r3 : List Cond := [Cond.instanceMethod yX3_plain, Cond.selects RX3 yX3_plain yX3_plain, Cond.code yX3_plain cX3_plain 4 (some .long), Cond.methodLink RX3 99 yX3_signed, Cond.instanceMethod yX3_signed, Cond.selects RX3 yX3_signed yX3_signed, Cond.code yX3_signed cX3_signed 6 (some .long), Cond.constantLong RX3 84 (2147483648), Cond.constantLong RX3 86 (-9223372036854775808), Cond.methodLink RX3 103 yX3_sizeOf, Cond.instanceMethod yX3_sizeOf, Cond.selects RX3 yX3_sizeOf yX3_sizeOf, Cond.code yX3_sizeOf cX3_sizeOf 4 (some .long), Cond.constantLong RX3 58 (-2147483648)]
def wsX3_gets : List Cond := .code yX3_gets cX3_gets 7 none :: ((wsX3_gets_r1 ++ (wsX3_gets_r2 ++ wsX3_gets_r3)) ++ wsX30)
def wsX3_keep : List Cond := .code yX3_keep cX3_keep 2 none :: ([.fieldLink RX3 143 "DetentCabinetModel" "steps" "I", .fieldLink RX3 36 "DetentCabinetModel" "kept" "[J", .fieldLink RX3 42 "DetentCabinetModel" "keptDials" "[I", .fieldLink RX3 39 "DetentCabinetModel" "ahead" "[J", .fieldLink RX3 51 "DetentCabinetModel" "dials" "I"] ++ wsX30)
def wsX3_call_r1 : List Cond := [Cond.fieldLink RX3 55 "DetentCabinetModel" "fault" "I", Cond.fieldLink RX3 119 "DetentCabinetModel" "moves" "I", Cond.fieldLink RX3 39 "DetentCabinetModel" "ahead" "[J", Cond.fieldLink RX3 13 "DetentCabinetModel" "value" "[J", Cond.fieldLink RX3 32 "DetentCabinetModel" "gone" "[Z", Cond.fieldLink RX3 137 "DetentCabinetModel" "movesInAll" "I", Cond.methodLink RX3 133 yX3_gets, Cond.instanceMethod yX3_gets, Cond.selects RX3 yX3_gets yX3_gets, Cond.initialized RX3, Cond.code yX3_gets cX3_gets 7 none, Cond.fieldLink RX3 45 "DetentCabinetModel" "open" "[I", Cond.fieldLink RX3 48 "DetentCabinetModel" "nextRod" "[I", Cond.fieldLink RX3 126 "DetentCabinetModel" "rods" "I", Cond.fieldLink RX3 26 "DetentCabinetModel" "from" "[I", Cond.fieldLink RX3 29 "DetentCabinetModel" "to" "[I", Cond.fieldLink RX3 23 "DetentCabinetModel" "sort" "[I", Cond.methodLink RX3 122 yX3_moved, Cond.instanceMethod yX3_moved, Cond.selects RX3 yX3_moved yX3_moved, Cond.code yX3_moved cX3_moved 6 (some .boolean), Cond.methodLink RX3 116 yX3_fitted, Cond.instanceMethod yX3_fitted, Cond.selects RX3 yX3_fitted yX3_fitted]
def wsX3_call_r2 : List Cond := [Cond.code yX3_fitted cX3_fitted 5 (some .long), Cond.fieldLink RX3 7 "DetentCabinetModel" "kind" "[I", Cond.fieldLink RX3 17 "DetentCabinetModel" "low" "[J", Cond.fieldLink RX3 20 "DetentCabinetModel" "high" "[J", Cond.methodLink RX3 110 yX3_less, Cond.instanceMethod yX3_less, Cond.selects RX3 yX3_less yX3_less, Cond.code yX3_less cX3_less 6 (some .long), Cond.methodLink RX3 80 yX3_isAbove, Cond.instanceMethod yX3_isAbove, Cond.selects RX3 yX3_isAbove yX3_isAbove, Cond.code yX3_isAbove cX3_isAbove 6 (some .boolean), Cond.methodLink RX3 76 yX3_rank, Cond.instanceMethod yX3_rank, Cond.selects RX3 yX3_rank yX3_rank, Cond.code yX3_rank cX3_rank 4 (some .long), Cond.constantLong RX3 60 (2147483647), Cond.constantLong RX3 62 (9223372036854775807), Cond.methodLink RX3 72 yX3_isReal, Cond.instanceMethod yX3_isReal, Cond.selects RX3 yX3_isReal yX3_isReal, Cond.code yX3_isReal cX3_isReal 2 (some .boolean), Cond.methodLink RX3 113 yX3_greater, Cond.instanceMethod yX3_greater]
def wsX3_call_r3 : List Cond := [Cond.selects RX3 yX3_greater yX3_greater, Cond.code yX3_greater cX3_greater 6 (some .long), Cond.methodLink RX3 129 yX3_gives, Cond.instanceMethod yX3_gives, Cond.selects RX3 yX3_gives yX3_gives, Cond.code yX3_gives cX3_gives 5 (some .long), Cond.methodLink RX3 88 yX3_plain, Cond.instanceMethod yX3_plain, Cond.selects RX3 yX3_plain yX3_plain, Cond.code yX3_plain cX3_plain 4 (some .long), Cond.methodLink RX3 99 yX3_signed, Cond.instanceMethod yX3_signed, Cond.selects RX3 yX3_signed yX3_signed, Cond.code yX3_signed cX3_signed 6 (some .long), Cond.constantLong RX3 84 (2147483648), Cond.constantLong RX3 86 (-9223372036854775808), Cond.methodLink RX3 103 yX3_sizeOf, Cond.instanceMethod yX3_sizeOf, Cond.selects RX3 yX3_sizeOf yX3_sizeOf, Cond.code yX3_sizeOf cX3_sizeOf 4 (some .long), Cond.constantLong RX3 58 (-2147483648), Cond.methodLink RX3 140 yX3_keep, Cond.instanceMethod yX3_keep, Cond.selects RX3 yX3_keep yX3_keep]
def wsX3_call_r4 : List Cond := [Cond.code yX3_keep cX3_keep 2 none, Cond.fieldLink RX3 143 "DetentCabinetModel" "steps" "I", Cond.fieldLink RX3 36 "DetentCabinetModel" "kept" "[J", Cond.fieldLink RX3 42 "DetentCabinetModel" "keptDials" "[I", Cond.fieldLink RX3 51 "DetentCabinetModel" "dials" "I"]
def wsX3_call : List Cond := .code yX3_call cX3_call 5 (some .int) :: ((wsX3_call_r1 ++ (wsX3_call_r2 ++ (wsX3_call_r3 ++ wsX3_call_r4))) ++ wsX30)
def wsX3_dial_r1 : List Cond := [Cond.fieldLink RX3 51 "DetentCabinetModel" "dials" "I", Cond.fieldLink RX3 55 "DetentCabinetModel" "fault" "I", Cond.fieldLink RX3 7 "DetentCabinetModel" "kind" "[I", Cond.fieldLink RX3 17 "DetentCabinetModel" "low" "[J", Cond.fieldLink RX3 20 "DetentCabinetModel" "high" "[J", Cond.fieldLink RX3 13 "DetentCabinetModel" "value" "[J", Cond.methodLink RX3 146 yX3_refused, Cond.instanceMethod yX3_refused, Cond.selects RX3 yX3_refused yX3_refused, Cond.initialized RX3, Cond.code yX3_refused cX3_refused 2 (some .int), Cond.methodLink RX3 150 yX3_isNumber, Cond.instanceMethod yX3_isNumber, Cond.selects RX3 yX3_isNumber yX3_isNumber, Cond.code yX3_isNumber cX3_isNumber 4 (some .boolean), Cond.constantLong RX3 62 (9223372036854775807), Cond.constantLong RX3 64 (9218868437227405312), Cond.constantLong RX3 60 (2147483647), Cond.constantLong RX3 70 (2139095040), Cond.methodLink RX3 66 yX3_isInt, Cond.instanceMethod yX3_isInt, Cond.selects RX3 yX3_isInt yX3_isInt, Cond.code yX3_isInt cX3_isInt 3 (some .boolean), Cond.constantLong RX3 58 (-2147483648)]
def wsX3_dial_r2 : List Cond := [Cond.methodLink RX3 80 yX3_isAbove, Cond.instanceMethod yX3_isAbove, Cond.selects RX3 yX3_isAbove yX3_isAbove, Cond.code yX3_isAbove cX3_isAbove 6 (some .boolean), Cond.methodLink RX3 76 yX3_rank, Cond.instanceMethod yX3_rank, Cond.selects RX3 yX3_rank yX3_rank, Cond.code yX3_rank cX3_rank 4 (some .long), Cond.methodLink RX3 72 yX3_isReal, Cond.instanceMethod yX3_isReal, Cond.selects RX3 yX3_isReal yX3_isReal, Cond.code yX3_isReal cX3_isReal 2 (some .boolean), Cond.methodLink RX3 116 yX3_fitted, Cond.instanceMethod yX3_fitted, Cond.selects RX3 yX3_fitted yX3_fitted, Cond.code yX3_fitted cX3_fitted 5 (some .long), Cond.methodLink RX3 110 yX3_less, Cond.instanceMethod yX3_less, Cond.selects RX3 yX3_less yX3_less, Cond.code yX3_less cX3_less 6 (some .long), Cond.methodLink RX3 113 yX3_greater, Cond.instanceMethod yX3_greater, Cond.selects RX3 yX3_greater yX3_greater, Cond.code yX3_greater cX3_greater 6 (some .long)]
def wsX3_dial : List Cond := .code yX3_dial cX3_dial 6 (some .int) :: ((wsX3_dial_r1 ++ wsX3_dial_r2) ++ wsX30)
def wsX3_reason : List Cond := .code yX3_reason cX3_reason 4 (some .int) :: ([.fieldLink RX3 7 "DetentCabinetModel" "kind" "[I", .methodLink RX3 72 yX3_isReal, .instanceMethod yX3_isReal, .selects RX3 yX3_isReal yX3_isReal, .initialized RX3, .code yX3_isReal cX3_isReal 2 (some .boolean)] ++ wsX30)
def wsX3_rod : List Cond := .code yX3_rod cX3_rod 5 (some .int) :: ([.fieldLink RX3 126 "DetentCabinetModel" "rods" "I", .fieldLink RX3 55 "DetentCabinetModel" "fault" "I", .fieldLink RX3 23 "DetentCabinetModel" "sort" "[I", .fieldLink RX3 26 "DetentCabinetModel" "from" "[I", .fieldLink RX3 29 "DetentCabinetModel" "to" "[I", .methodLink RX3 146 yX3_refused, .instanceMethod yX3_refused, .selects RX3 yX3_refused yX3_refused, .initialized RX3, .code yX3_refused cX3_refused 2 (some .int), .methodLink RX3 153 yX3_isDial, .instanceMethod yX3_isDial, .selects RX3 yX3_isDial yX3_isDial, .code yX3_isDial cX3_isDial 2 (some .boolean), .fieldLink RX3 51 "DetentCabinetModel" "dials" "I", .methodLink RX3 156 yX3_reason, .instanceMethod yX3_reason, .selects RX3 yX3_reason yX3_reason, .code yX3_reason cX3_reason 4 (some .int), .fieldLink RX3 7 "DetentCabinetModel" "kind" "[I", .methodLink RX3 72 yX3_isReal, .instanceMethod yX3_isReal, .selects RX3 yX3_isReal yX3_isReal, .code yX3_isReal cX3_isReal 2 (some .boolean)] ++ wsX30)
def wsX3_set_r1 : List Cond := [Cond.fieldLink RX3 7 "DetentCabinetModel" "kind" "[I", Cond.methodLink RX3 153 yX3_isDial, Cond.instanceMethod yX3_isDial, Cond.selects RX3 yX3_isDial yX3_isDial, Cond.initialized RX3, Cond.code yX3_isDial cX3_isDial 2 (some .boolean), Cond.fieldLink RX3 51 "DetentCabinetModel" "dials" "I", Cond.methodLink RX3 146 yX3_refused, Cond.instanceMethod yX3_refused, Cond.selects RX3 yX3_refused yX3_refused, Cond.code yX3_refused cX3_refused 2 (some .int), Cond.fieldLink RX3 55 "DetentCabinetModel" "fault" "I", Cond.methodLink RX3 150 yX3_isNumber, Cond.instanceMethod yX3_isNumber, Cond.selects RX3 yX3_isNumber yX3_isNumber, Cond.code yX3_isNumber cX3_isNumber 4 (some .boolean), Cond.constantLong RX3 62 (9223372036854775807), Cond.constantLong RX3 64 (9218868437227405312), Cond.constantLong RX3 60 (2147483647), Cond.constantLong RX3 70 (2139095040), Cond.methodLink RX3 66 yX3_isInt, Cond.instanceMethod yX3_isInt, Cond.selects RX3 yX3_isInt yX3_isInt, Cond.code yX3_isInt cX3_isInt 3 (some .boolean)]
def wsX3_set_r2 : List Cond := [Cond.constantLong RX3 58 (-2147483648), Cond.methodLink RX3 160 yX3_call, Cond.instanceMethod yX3_call, Cond.selects RX3 yX3_call yX3_call, Cond.code yX3_call cX3_call 5 (some .int), Cond.fieldLink RX3 119 "DetentCabinetModel" "moves" "I", Cond.fieldLink RX3 39 "DetentCabinetModel" "ahead" "[J", Cond.fieldLink RX3 13 "DetentCabinetModel" "value" "[J", Cond.fieldLink RX3 32 "DetentCabinetModel" "gone" "[Z", Cond.fieldLink RX3 137 "DetentCabinetModel" "movesInAll" "I", Cond.methodLink RX3 133 yX3_gets, Cond.instanceMethod yX3_gets, Cond.selects RX3 yX3_gets yX3_gets, Cond.code yX3_gets cX3_gets 7 none, Cond.fieldLink RX3 45 "DetentCabinetModel" "open" "[I", Cond.fieldLink RX3 48 "DetentCabinetModel" "nextRod" "[I", Cond.fieldLink RX3 126 "DetentCabinetModel" "rods" "I", Cond.fieldLink RX3 26 "DetentCabinetModel" "from" "[I", Cond.fieldLink RX3 29 "DetentCabinetModel" "to" "[I", Cond.fieldLink RX3 23 "DetentCabinetModel" "sort" "[I", Cond.methodLink RX3 122 yX3_moved, Cond.instanceMethod yX3_moved, Cond.selects RX3 yX3_moved yX3_moved, Cond.code yX3_moved cX3_moved 6 (some .boolean)]
def wsX3_set_r3 : List Cond := [Cond.methodLink RX3 116 yX3_fitted, Cond.instanceMethod yX3_fitted, Cond.selects RX3 yX3_fitted yX3_fitted, Cond.code yX3_fitted cX3_fitted 5 (some .long), Cond.fieldLink RX3 17 "DetentCabinetModel" "low" "[J", Cond.fieldLink RX3 20 "DetentCabinetModel" "high" "[J", Cond.methodLink RX3 110 yX3_less, Cond.instanceMethod yX3_less, Cond.selects RX3 yX3_less yX3_less, Cond.code yX3_less cX3_less 6 (some .long), Cond.methodLink RX3 80 yX3_isAbove, Cond.instanceMethod yX3_isAbove, Cond.selects RX3 yX3_isAbove yX3_isAbove, Cond.code yX3_isAbove cX3_isAbove 6 (some .boolean), Cond.methodLink RX3 76 yX3_rank, Cond.instanceMethod yX3_rank, Cond.selects RX3 yX3_rank yX3_rank, Cond.code yX3_rank cX3_rank 4 (some .long), Cond.methodLink RX3 72 yX3_isReal, Cond.instanceMethod yX3_isReal, Cond.selects RX3 yX3_isReal yX3_isReal, Cond.code yX3_isReal cX3_isReal 2 (some .boolean), Cond.methodLink RX3 113 yX3_greater, Cond.instanceMethod yX3_greater]
def wsX3_set_r4 : List Cond := [Cond.selects RX3 yX3_greater yX3_greater, Cond.code yX3_greater cX3_greater 6 (some .long), Cond.methodLink RX3 129 yX3_gives, Cond.instanceMethod yX3_gives, Cond.selects RX3 yX3_gives yX3_gives, Cond.code yX3_gives cX3_gives 5 (some .long), Cond.methodLink RX3 88 yX3_plain, Cond.instanceMethod yX3_plain, Cond.selects RX3 yX3_plain yX3_plain, Cond.code yX3_plain cX3_plain 4 (some .long), Cond.methodLink RX3 99 yX3_signed, Cond.instanceMethod yX3_signed, Cond.selects RX3 yX3_signed yX3_signed, Cond.code yX3_signed cX3_signed 6 (some .long), Cond.constantLong RX3 84 (2147483648), Cond.constantLong RX3 86 (-9223372036854775808), Cond.methodLink RX3 103 yX3_sizeOf, Cond.instanceMethod yX3_sizeOf, Cond.selects RX3 yX3_sizeOf yX3_sizeOf, Cond.code yX3_sizeOf cX3_sizeOf 4 (some .long), Cond.methodLink RX3 140 yX3_keep, Cond.instanceMethod yX3_keep, Cond.selects RX3 yX3_keep yX3_keep, Cond.code yX3_keep cX3_keep 2 none]
def wsX3_set_r5 : List Cond := [Cond.fieldLink RX3 143 "DetentCabinetModel" "steps" "I", Cond.fieldLink RX3 36 "DetentCabinetModel" "kept" "[J", Cond.fieldLink RX3 42 "DetentCabinetModel" "keptDials" "[I"]
def wsX3_set : List Cond := .code yX3_set cX3_set 4 (some .int) :: ((wsX3_set_r1 ++ (wsX3_set_r2 ++ (wsX3_set_r3 ++ (wsX3_set_r4 ++ wsX3_set_r5)))) ++ wsX30)
def wsX3_turn_r1 : List Cond := [Cond.fieldLink RX3 7 "DetentCabinetModel" "kind" "[I", Cond.fieldLink RX3 13 "DetentCabinetModel" "value" "[J", Cond.methodLink RX3 153 yX3_isDial, Cond.instanceMethod yX3_isDial, Cond.selects RX3 yX3_isDial yX3_isDial, Cond.initialized RX3, Cond.code yX3_isDial cX3_isDial 2 (some .boolean), Cond.fieldLink RX3 51 "DetentCabinetModel" "dials" "I", Cond.methodLink RX3 146 yX3_refused, Cond.instanceMethod yX3_refused, Cond.selects RX3 yX3_refused yX3_refused, Cond.code yX3_refused cX3_refused 2 (some .int), Cond.fieldLink RX3 55 "DetentCabinetModel" "fault" "I", Cond.methodLink RX3 72 yX3_isReal, Cond.instanceMethod yX3_isReal, Cond.selects RX3 yX3_isReal yX3_isReal, Cond.code yX3_isReal cX3_isReal 2 (some .boolean), Cond.methodLink RX3 164 yX3_turned, Cond.instanceMethod yX3_turned, Cond.selects RX3 yX3_turned yX3_turned, Cond.code yX3_turned cX3_turned 5 (some .long), Cond.methodLink RX3 103 yX3_sizeOf, Cond.instanceMethod yX3_sizeOf, Cond.selects RX3 yX3_sizeOf yX3_sizeOf]
def wsX3_turn_r2 : List Cond := [Cond.code yX3_sizeOf cX3_sizeOf 4 (some .long), Cond.constantLong RX3 58 (-2147483648), Cond.constantLong RX3 86 (-9223372036854775808), Cond.methodLink RX3 88 yX3_plain, Cond.instanceMethod yX3_plain, Cond.selects RX3 yX3_plain yX3_plain, Cond.code yX3_plain cX3_plain 4 (some .long), Cond.constantLong RX3 60 (2147483647), Cond.constantLong RX3 62 (9223372036854775807), Cond.methodLink RX3 106 yX3_whole, Cond.instanceMethod yX3_whole, Cond.selects RX3 yX3_whole yX3_whole, Cond.code yX3_whole cX3_whole 18 (some .long), Cond.methodLink RX3 95 yX3_one, Cond.instanceMethod yX3_one, Cond.selects RX3 yX3_one yX3_one, Cond.code yX3_one cX3_one 2 (some .long), Cond.constantLong RX3 91 (1065353216), Cond.constantLong RX3 93 (4607182418800017408), Cond.methodLink RX3 99 yX3_signed, Cond.instanceMethod yX3_signed, Cond.selects RX3 yX3_signed yX3_signed, Cond.code yX3_signed cX3_signed 6 (some .long), Cond.constantLong RX3 84 (2147483648)]
def wsX3_turn_r3 : List Cond := [Cond.methodLink RX3 160 yX3_call, Cond.instanceMethod yX3_call, Cond.selects RX3 yX3_call yX3_call, Cond.code yX3_call cX3_call 5 (some .int), Cond.fieldLink RX3 119 "DetentCabinetModel" "moves" "I", Cond.fieldLink RX3 39 "DetentCabinetModel" "ahead" "[J", Cond.fieldLink RX3 32 "DetentCabinetModel" "gone" "[Z", Cond.fieldLink RX3 137 "DetentCabinetModel" "movesInAll" "I", Cond.methodLink RX3 133 yX3_gets, Cond.instanceMethod yX3_gets, Cond.selects RX3 yX3_gets yX3_gets, Cond.code yX3_gets cX3_gets 7 none, Cond.fieldLink RX3 45 "DetentCabinetModel" "open" "[I", Cond.fieldLink RX3 48 "DetentCabinetModel" "nextRod" "[I", Cond.fieldLink RX3 126 "DetentCabinetModel" "rods" "I", Cond.fieldLink RX3 26 "DetentCabinetModel" "from" "[I", Cond.fieldLink RX3 29 "DetentCabinetModel" "to" "[I", Cond.fieldLink RX3 23 "DetentCabinetModel" "sort" "[I", Cond.methodLink RX3 122 yX3_moved, Cond.instanceMethod yX3_moved, Cond.selects RX3 yX3_moved yX3_moved, Cond.code yX3_moved cX3_moved 6 (some .boolean), Cond.methodLink RX3 116 yX3_fitted, Cond.instanceMethod yX3_fitted]
def wsX3_turn_r4 : List Cond := [Cond.selects RX3 yX3_fitted yX3_fitted, Cond.code yX3_fitted cX3_fitted 5 (some .long), Cond.fieldLink RX3 17 "DetentCabinetModel" "low" "[J", Cond.fieldLink RX3 20 "DetentCabinetModel" "high" "[J", Cond.methodLink RX3 110 yX3_less, Cond.instanceMethod yX3_less, Cond.selects RX3 yX3_less yX3_less, Cond.code yX3_less cX3_less 6 (some .long), Cond.methodLink RX3 80 yX3_isAbove, Cond.instanceMethod yX3_isAbove, Cond.selects RX3 yX3_isAbove yX3_isAbove, Cond.code yX3_isAbove cX3_isAbove 6 (some .boolean), Cond.methodLink RX3 76 yX3_rank, Cond.instanceMethod yX3_rank, Cond.selects RX3 yX3_rank yX3_rank, Cond.code yX3_rank cX3_rank 4 (some .long), Cond.methodLink RX3 113 yX3_greater, Cond.instanceMethod yX3_greater, Cond.selects RX3 yX3_greater yX3_greater, Cond.code yX3_greater cX3_greater 6 (some .long), Cond.methodLink RX3 129 yX3_gives, Cond.instanceMethod yX3_gives, Cond.selects RX3 yX3_gives yX3_gives, Cond.code yX3_gives cX3_gives 5 (some .long)]
def wsX3_turn_r5 : List Cond := [Cond.methodLink RX3 140 yX3_keep, Cond.instanceMethod yX3_keep, Cond.selects RX3 yX3_keep yX3_keep, Cond.code yX3_keep cX3_keep 2 none, Cond.fieldLink RX3 143 "DetentCabinetModel" "steps" "I", Cond.fieldLink RX3 36 "DetentCabinetModel" "kept" "[J", Cond.fieldLink RX3 42 "DetentCabinetModel" "keptDials" "[I"]
def wsX3_turn : List Cond := .code yX3_turn cX3_turn 3 (some .int) :: ((wsX3_turn_r1 ++ (wsX3_turn_r2 ++ (wsX3_turn_r3 ++ (wsX3_turn_r4 ++ wsX3_turn_r5)))) ++ wsX30)
def wsX3_take_r1 : List Cond := [Cond.methodLink RX3 153 yX3_isDial, Cond.instanceMethod yX3_isDial, Cond.selects RX3 yX3_isDial yX3_isDial, Cond.initialized RX3, Cond.code yX3_isDial cX3_isDial 2 (some .boolean), Cond.fieldLink RX3 51 "DetentCabinetModel" "dials" "I", Cond.methodLink RX3 146 yX3_refused, Cond.instanceMethod yX3_refused, Cond.selects RX3 yX3_refused yX3_refused, Cond.code yX3_refused cX3_refused 2 (some .int), Cond.fieldLink RX3 55 "DetentCabinetModel" "fault" "I", Cond.methodLink RX3 156 yX3_reason, Cond.instanceMethod yX3_reason, Cond.selects RX3 yX3_reason yX3_reason, Cond.code yX3_reason cX3_reason 4 (some .int), Cond.fieldLink RX3 7 "DetentCabinetModel" "kind" "[I", Cond.methodLink RX3 72 yX3_isReal, Cond.instanceMethod yX3_isReal, Cond.selects RX3 yX3_isReal yX3_isReal, Cond.code yX3_isReal cX3_isReal 2 (some .boolean), Cond.methodLink RX3 129 yX3_gives, Cond.instanceMethod yX3_gives, Cond.selects RX3 yX3_gives yX3_gives, Cond.code yX3_gives cX3_gives 5 (some .long)]
def wsX3_take_r2 : List Cond := [Cond.fieldLink RX3 13 "DetentCabinetModel" "value" "[J", Cond.methodLink RX3 113 yX3_greater, Cond.instanceMethod yX3_greater, Cond.selects RX3 yX3_greater yX3_greater, Cond.code yX3_greater cX3_greater 6 (some .long), Cond.methodLink RX3 80 yX3_isAbove, Cond.instanceMethod yX3_isAbove, Cond.selects RX3 yX3_isAbove yX3_isAbove, Cond.code yX3_isAbove cX3_isAbove 6 (some .boolean), Cond.methodLink RX3 76 yX3_rank, Cond.instanceMethod yX3_rank, Cond.selects RX3 yX3_rank yX3_rank, Cond.code yX3_rank cX3_rank 4 (some .long), Cond.constantLong RX3 60 (2147483647), Cond.constantLong RX3 62 (9223372036854775807), Cond.methodLink RX3 110 yX3_less, Cond.instanceMethod yX3_less, Cond.selects RX3 yX3_less yX3_less, Cond.code yX3_less cX3_less 6 (some .long), Cond.methodLink RX3 88 yX3_plain, Cond.instanceMethod yX3_plain, Cond.selects RX3 yX3_plain yX3_plain, Cond.code yX3_plain cX3_plain 4 (some .long), Cond.methodLink RX3 99 yX3_signed]
def wsX3_take_r3 : List Cond := [Cond.instanceMethod yX3_signed, Cond.selects RX3 yX3_signed yX3_signed, Cond.code yX3_signed cX3_signed 6 (some .long), Cond.constantLong RX3 84 (2147483648), Cond.constantLong RX3 86 (-9223372036854775808), Cond.methodLink RX3 103 yX3_sizeOf, Cond.instanceMethod yX3_sizeOf, Cond.selects RX3 yX3_sizeOf yX3_sizeOf, Cond.code yX3_sizeOf cX3_sizeOf 4 (some .long), Cond.constantLong RX3 58 (-2147483648), Cond.methodLink RX3 160 yX3_call, Cond.instanceMethod yX3_call, Cond.selects RX3 yX3_call yX3_call, Cond.code yX3_call cX3_call 5 (some .int), Cond.fieldLink RX3 119 "DetentCabinetModel" "moves" "I", Cond.fieldLink RX3 39 "DetentCabinetModel" "ahead" "[J", Cond.fieldLink RX3 32 "DetentCabinetModel" "gone" "[Z", Cond.fieldLink RX3 137 "DetentCabinetModel" "movesInAll" "I", Cond.methodLink RX3 133 yX3_gets, Cond.instanceMethod yX3_gets, Cond.selects RX3 yX3_gets yX3_gets, Cond.code yX3_gets cX3_gets 7 none, Cond.fieldLink RX3 45 "DetentCabinetModel" "open" "[I", Cond.fieldLink RX3 48 "DetentCabinetModel" "nextRod" "[I"]
def wsX3_take_r4 : List Cond := [Cond.fieldLink RX3 126 "DetentCabinetModel" "rods" "I", Cond.fieldLink RX3 26 "DetentCabinetModel" "from" "[I", Cond.fieldLink RX3 29 "DetentCabinetModel" "to" "[I", Cond.fieldLink RX3 23 "DetentCabinetModel" "sort" "[I", Cond.methodLink RX3 122 yX3_moved, Cond.instanceMethod yX3_moved, Cond.selects RX3 yX3_moved yX3_moved, Cond.code yX3_moved cX3_moved 6 (some .boolean), Cond.methodLink RX3 116 yX3_fitted, Cond.instanceMethod yX3_fitted, Cond.selects RX3 yX3_fitted yX3_fitted, Cond.code yX3_fitted cX3_fitted 5 (some .long), Cond.fieldLink RX3 17 "DetentCabinetModel" "low" "[J", Cond.fieldLink RX3 20 "DetentCabinetModel" "high" "[J", Cond.methodLink RX3 140 yX3_keep, Cond.instanceMethod yX3_keep, Cond.selects RX3 yX3_keep yX3_keep, Cond.code yX3_keep cX3_keep 2 none, Cond.fieldLink RX3 143 "DetentCabinetModel" "steps" "I", Cond.fieldLink RX3 36 "DetentCabinetModel" "kept" "[J", Cond.fieldLink RX3 42 "DetentCabinetModel" "keptDials" "[I"]
def wsX3_take : List Cond := .code yX3_take cX3_take 5 (some .int) :: ((wsX3_take_r1 ++ (wsX3_take_r2 ++ (wsX3_take_r3 ++ wsX3_take_r4))) ++ wsX30)
def wsX3_back : List Cond := .code yX3_back cX3_back 5 (some .int) :: ([.fieldLink RX3 143 "DetentCabinetModel" "steps" "I", .fieldLink RX3 55 "DetentCabinetModel" "fault" "I", .fieldLink RX3 42 "DetentCabinetModel" "keptDials" "[I", .fieldLink RX3 36 "DetentCabinetModel" "kept" "[J", .fieldLink RX3 13 "DetentCabinetModel" "value" "[J", .methodLink RX3 146 yX3_refused, .instanceMethod yX3_refused, .selects RX3 yX3_refused yX3_refused, .initialized RX3, .code yX3_refused cX3_refused 2 (some .int)] ++ wsX30)
def wsX3_order : List Cond := .code yX3_order cX3_order 3 (some .int) :: ([.fieldLink RX3 7 "DetentCabinetModel" "kind" "[I", .fieldLink RX3 55 "DetentCabinetModel" "fault" "I", .fieldLink RX3 13 "DetentCabinetModel" "value" "[J", .methodLink RX3 153 yX3_isDial, .instanceMethod yX3_isDial, .selects RX3 yX3_isDial yX3_isDial, .initialized RX3, .code yX3_isDial cX3_isDial 2 (some .boolean), .fieldLink RX3 51 "DetentCabinetModel" "dials" "I", .methodLink RX3 80 yX3_isAbove, .instanceMethod yX3_isAbove, .selects RX3 yX3_isAbove yX3_isAbove, .code yX3_isAbove cX3_isAbove 6 (some .boolean), .methodLink RX3 76 yX3_rank, .instanceMethod yX3_rank, .selects RX3 yX3_rank yX3_rank, .code yX3_rank cX3_rank 4 (some .long), .constantLong RX3 60 (2147483647), .constantLong RX3 62 (9223372036854775807), .methodLink RX3 72 yX3_isReal, .instanceMethod yX3_isReal, .selects RX3 yX3_isReal yX3_isReal, .code yX3_isReal cX3_isReal 2 (some .boolean)] ++ wsX30)
def wsX3_look : List Cond := .code yX3_look cX3_look 3 (some .long) :: ([.fieldLink RX3 13 "DetentCabinetModel" "value" "[J", .fieldLink RX3 17 "DetentCabinetModel" "low" "[J", .fieldLink RX3 20 "DetentCabinetModel" "high" "[J", .fieldLink RX3 7 "DetentCabinetModel" "kind" "[I", .methodLink RX3 153 yX3_isDial, .instanceMethod yX3_isDial, .selects RX3 yX3_isDial yX3_isDial, .initialized RX3, .code yX3_isDial cX3_isDial 2 (some .boolean), .fieldLink RX3 51 "DetentCabinetModel" "dials" "I"] ++ wsX30)
def wsX3_count : List Cond := .code yX3_count cX3_count 2 (some .int) :: ([.fieldLink RX3 51 "DetentCabinetModel" "dials" "I", .fieldLink RX3 126 "DetentCabinetModel" "rods" "I", .fieldLink RX3 143 "DetentCabinetModel" "steps" "I", .fieldLink RX3 137 "DetentCabinetModel" "movesInAll" "I", .fieldLink RX3 55 "DetentCabinetModel" "fault" "I"] ++ wsX30)
def wsJ9_abs_0f7a4 : List Cond := .code yJ9_abs_0f7a4 cJ9_abs_0f7a4 1 (some .int) :: ([])
def wsJ9_abs_067f4 : List Cond := .code yJ9_abs_067f4 cJ9_abs_067f4 2 (some .long) :: ([])
def wsL_law_r1 : List Cond := [Cond.classLink RL 7 RX2, Cond.instantiable RX2 14, Cond.initialized RX2, Cond.classLink RL 10 RX3, Cond.instantiable RX3 19, Cond.initialized RX3, Cond.constantLong RL 13 (4294967295), Cond.methodLink RL 9 yX2_init, Cond.instanceMethod yX2_init, Cond.code yX2_init cX2_init 1 none, Cond.methodLink RX2 1 objectInit, Cond.instanceMethod objectInit, Cond.code objectInit ⟨#[0xb1]⟩ 1 none, Cond.arrayClass .int, Cond.fieldLink RX2 9 "DetentCabinet" "kinds" "[I", Cond.arrayClass .long, Cond.fieldLink RX2 13 "DetentCabinet" "lows" "[J", Cond.fieldLink RX2 17 "DetentCabinet" "highs" "[J", Cond.fieldLink RX2 20 "DetentCabinet" "values" "[J", Cond.fieldLink RX2 23 "DetentCabinet" "rodSorts" "[I", Cond.fieldLink RX2 26 "DetentCabinet" "rodFroms" "[I", Cond.fieldLink RX2 29 "DetentCabinet" "rodTos" "[I", Cond.arrayClass .boolean, Cond.fieldLink RX2 32 "DetentCabinet" "rodGone" "[Z"]
def wsL_law_r2 : List Cond := [Cond.classLink RX2 36 RX1, Cond.instantiable RX1 4, Cond.initialized RX1, Cond.fieldLink RX2 39 "DetentCabinet" "steps" "LDetentCabinet$Steps;", Cond.methodLink RX2 38 yX1_init, Cond.instanceMethod yX1_init, Cond.code yX1_init cX1_init 1 none, Cond.methodLink RX1 3 objectInit, Cond.fieldLink RX1 9 "DetentCabinet$Steps" "valuesAhead" "[J", Cond.fieldLink RX1 15 "DetentCabinet$Steps" "dialsAhead" "[I", Cond.methodLink RL 12 yX3_init, Cond.instanceMethod yX3_init, Cond.code yX3_init cX3_init 1 none, Cond.methodLink RX3 1 objectInit, Cond.fieldLink RX3 7 "DetentCabinetModel" "kind" "[I", Cond.fieldLink RX3 13 "DetentCabinetModel" "value" "[J", Cond.fieldLink RX3 17 "DetentCabinetModel" "low" "[J", Cond.fieldLink RX3 20 "DetentCabinetModel" "high" "[J", Cond.fieldLink RX3 23 "DetentCabinetModel" "sort" "[I", Cond.fieldLink RX3 26 "DetentCabinetModel" "from" "[I", Cond.fieldLink RX3 29 "DetentCabinetModel" "to" "[I", Cond.fieldLink RX3 32 "DetentCabinetModel" "gone" "[Z", Cond.fieldLink RX3 36 "DetentCabinetModel" "kept" "[J", Cond.fieldLink RX3 39 "DetentCabinetModel" "ahead" "[J"]
def wsL_law_r3 : List Cond := [Cond.fieldLink RX3 42 "DetentCabinetModel" "keptDials" "[I", Cond.fieldLink RX3 45 "DetentCabinetModel" "open" "[I", Cond.fieldLink RX3 48 "DetentCabinetModel" "nextRod" "[I", Cond.methodLink RL 15 yX2_dial, Cond.instanceMethod yX2_dial, Cond.selects RX2 yX2_dial yX2_dial, Cond.code yX2_dial cX2_dial 7 (some .int), Cond.fieldLink RX2 47 "DetentCabinet" "fault" "I", Cond.fieldLink RX2 51 "DetentCabinet" "dialCount" "I", Cond.methodLink RX2 43 yX2_faultOfDial, Cond.instanceMethod yX2_faultOfDial, Cond.selects RX2 yX2_faultOfDial yX2_faultOfDial, Cond.code yX2_faultOfDial cX2_faultOfDial 6 (some .int), Cond.methodLink RX2 110 yX0_isOfKind, Cond.static yX0_isOfKind, Cond.initialized RX0, Cond.code yX0_isOfKind cX0_isOfKind 4 (some .boolean), Cond.constantLong RX0 11 (-2147483648), Cond.constantLong RX0 13 (2147483647), Cond.constantLong RX0 17 (2139095040), Cond.constantLong RX0 19 (9223372036854775807), Cond.constantLong RX0 21 (9218868437227405312), Cond.methodLink RX2 100 yX0_compared, Cond.static yX0_compared]
def wsL_law_r4 : List Cond := [Cond.code yX0_compared cX0_compared 9 (some .int), Cond.methodLink RX0 23 yX0_rank, Cond.static yX0_rank, Cond.code yX0_rank cX0_rank 3 (some .long), Cond.methodLink RX0 73 yX0_isReal, Cond.static yX0_isReal, Cond.code yX0_isReal cX0_isReal 1 (some .boolean), Cond.methodLink RX0 47 yX0_sizeBits, Cond.static yX0_sizeBits, Cond.code yX0_sizeBits cX0_sizeBits 1 (some .long), Cond.methodLink RX2 54 yX0_fitted, Cond.static yX0_fitted, Cond.code yX0_fitted cX0_fitted 7 (some .long), Cond.methodLink RX0 31 yX0_less, Cond.static yX0_less, Cond.code yX0_less cX0_less 5 (some .long), Cond.methodLink RX0 27 yX0_compared, Cond.methodLink RX0 35 yX0_greater, Cond.static yX0_greater, Cond.code yX0_greater cX0_greater 5 (some .long), Cond.methodLink RL 19 yX3_dial, Cond.instanceMethod yX3_dial, Cond.selects RX3 yX3_dial yX3_dial, Cond.code yX3_dial cX3_dial 6 (some .int)]
def wsL_law_r5 : List Cond := [Cond.fieldLink RX3 51 "DetentCabinetModel" "dials" "I", Cond.fieldLink RX3 55 "DetentCabinetModel" "fault" "I", Cond.methodLink RX3 146 yX3_refused, Cond.instanceMethod yX3_refused, Cond.selects RX3 yX3_refused yX3_refused, Cond.code yX3_refused cX3_refused 2 (some .int), Cond.methodLink RX3 150 yX3_isNumber, Cond.instanceMethod yX3_isNumber, Cond.selects RX3 yX3_isNumber yX3_isNumber, Cond.code yX3_isNumber cX3_isNumber 4 (some .boolean), Cond.constantLong RX3 62 (9223372036854775807), Cond.constantLong RX3 64 (9218868437227405312), Cond.constantLong RX3 60 (2147483647), Cond.constantLong RX3 70 (2139095040), Cond.methodLink RX3 66 yX3_isInt, Cond.instanceMethod yX3_isInt, Cond.selects RX3 yX3_isInt yX3_isInt, Cond.code yX3_isInt cX3_isInt 3 (some .boolean), Cond.constantLong RX3 58 (-2147483648), Cond.methodLink RX3 80 yX3_isAbove, Cond.instanceMethod yX3_isAbove, Cond.selects RX3 yX3_isAbove yX3_isAbove, Cond.code yX3_isAbove cX3_isAbove 6 (some .boolean), Cond.methodLink RX3 76 yX3_rank]
def wsL_law_r6 : List Cond := [Cond.instanceMethod yX3_rank, Cond.selects RX3 yX3_rank yX3_rank, Cond.code yX3_rank cX3_rank 4 (some .long), Cond.methodLink RX3 72 yX3_isReal, Cond.instanceMethod yX3_isReal, Cond.selects RX3 yX3_isReal yX3_isReal, Cond.code yX3_isReal cX3_isReal 2 (some .boolean), Cond.methodLink RX3 116 yX3_fitted, Cond.instanceMethod yX3_fitted, Cond.selects RX3 yX3_fitted yX3_fitted, Cond.code yX3_fitted cX3_fitted 5 (some .long), Cond.methodLink RX3 110 yX3_less, Cond.instanceMethod yX3_less, Cond.selects RX3 yX3_less yX3_less, Cond.code yX3_less cX3_less 6 (some .long), Cond.methodLink RX3 113 yX3_greater, Cond.instanceMethod yX3_greater, Cond.selects RX3 yX3_greater yX3_greater, Cond.code yX3_greater cX3_greater 6 (some .long), Cond.methodLink RL 20 yX2_rod, Cond.instanceMethod yX2_rod, Cond.selects RX2 yX2_rod yX2_rod, Cond.code yX2_rod cX2_rod 5 (some .int), Cond.fieldLink RX2 64 "DetentCabinet" "rodCount" "I"]
def wsL_law_r7 : List Cond := [Cond.methodLink RX2 60 yX2_faultOfRod, Cond.instanceMethod yX2_faultOfRod, Cond.selects RX2 yX2_faultOfRod yX2_faultOfRod, Cond.code yX2_faultOfRod cX2_faultOfRod 5 (some .int), Cond.methodLink RX2 114 yX2_isSort, Cond.static yX2_isSort, Cond.code yX2_isSort cX2_isSort 1 (some .boolean), Cond.methodLink RX2 103 yX2_isDial, Cond.instanceMethod yX2_isDial, Cond.selects RX2 yX2_isDial yX2_isDial, Cond.code yX2_isDial cX2_isDial 2 (some .boolean), Cond.methodLink RX2 117 yX2_faultOfPair, Cond.instanceMethod yX2_faultOfPair, Cond.selects RX2 yX2_faultOfPair yX2_faultOfPair, Cond.code yX2_faultOfPair cX2_faultOfPair 4 (some .int), Cond.methodLink RX2 120 yX0_isReal, Cond.methodLink RL 24 yX3_rod, Cond.instanceMethod yX3_rod, Cond.selects RX3 yX3_rod yX3_rod, Cond.code yX3_rod cX3_rod 5 (some .int), Cond.fieldLink RX3 126 "DetentCabinetModel" "rods" "I", Cond.methodLink RX3 153 yX3_isDial, Cond.instanceMethod yX3_isDial, Cond.selects RX3 yX3_isDial yX3_isDial]
def wsL_law_r8 : List Cond := [Cond.code yX3_isDial cX3_isDial 2 (some .boolean), Cond.methodLink RX3 156 yX3_reason, Cond.instanceMethod yX3_reason, Cond.selects RX3 yX3_reason yX3_reason, Cond.code yX3_reason cX3_reason 4 (some .int), Cond.methodLink RL 25 yX2_set, Cond.instanceMethod yX2_set, Cond.selects RX2 yX2_set yX2_set, Cond.code yX2_set cX2_set 4 (some .int), Cond.methodLink RX2 67 yX2_faultOfSet, Cond.instanceMethod yX2_faultOfSet, Cond.selects RX2 yX2_faultOfSet yX2_faultOfSet, Cond.code yX2_faultOfSet cX2_faultOfSet 4 (some .int), Cond.methodLink RX2 71 yX2_movesWhenGiven, Cond.instanceMethod yX2_movesWhenGiven, Cond.selects RX2 yX2_movesWhenGiven yX2_movesWhenGiven, Cond.code yX2_movesWhenGiven cX2_movesWhenGiven 5 (some .int), Cond.fieldLink RX2 123 "DetentCabinet" "movesOfCall" "I", Cond.methodLink RX2 126 yX2_gets, Cond.instanceMethod yX2_gets, Cond.selects RX2 yX2_gets yX2_gets, Cond.code yX2_gets cX2_gets 8 none, Cond.methodLink RX2 130 yX2_move, Cond.instanceMethod yX2_move]
def wsL_law_r9 : List Cond := [Cond.selects RX2 yX2_move yX2_move, Cond.code yX2_move cX2_move 4 none, Cond.fieldLink RX2 107 "DetentCabinet" "movesInAll" "I", Cond.methodLink RX2 134 yX1_keep, Cond.instanceMethod yX1_keep, Cond.selects RX1 yX1_keep yX1_keep, Cond.code yX1_keep cX1_keep 4 none, Cond.fieldLink RX1 19 "DetentCabinet$Steps" "held" "I", Cond.fieldLink RX1 23 "DetentCabinet$Steps" "earliest" "I", Cond.methodLink RX1 26 arraycopyName, Cond.native arraycopyName, Cond.static arraycopyName, Cond.initialized "java/lang/System", Cond.methodLink RX2 85 yX2_gift, Cond.instanceMethod yX2_gift, Cond.selects RX2 yX2_gift yX2_gift, Cond.code yX2_gift cX2_gift 5 (some .long), Cond.methodLink RX2 138 yX0_greater, Cond.methodLink RX2 142 yX0_less, Cond.methodLink RX2 145 yX0_signed, Cond.static yX0_signed, Cond.code yX0_signed cX0_signed 7 (some .long), Cond.constantLong RX0 51 (-1), Cond.methodLink RX2 148 yX0_sizeOf]
def wsL_law_r10 : List Cond := [Cond.static yX0_sizeOf, Cond.code yX0_sizeOf cX0_sizeOf 3 (some .long), Cond.methodLink RX0 38 Lib.Math.abs.name, Cond.static Lib.Math.abs.name, Cond.initialized "java/lang/Math", Cond.code Lib.Math.abs.name Lib.Math.abs.code 1 (some .int), Cond.methodLink RX0 44 Lib.MathLoose.abs_long.x, Cond.static Lib.MathLoose.abs_long.x, Cond.code Lib.MathLoose.abs_long.x Lib.MathLoose.abs_long.code 2 (some .long), Cond.methodLink RL 29 yX3_set, Cond.instanceMethod yX3_set, Cond.selects RX3 yX3_set yX3_set, Cond.code yX3_set cX3_set 4 (some .int), Cond.methodLink RX3 160 yX3_call, Cond.instanceMethod yX3_call, Cond.selects RX3 yX3_call yX3_call, Cond.code yX3_call cX3_call 5 (some .int), Cond.fieldLink RX3 119 "DetentCabinetModel" "moves" "I", Cond.fieldLink RX3 137 "DetentCabinetModel" "movesInAll" "I", Cond.methodLink RX3 133 yX3_gets, Cond.instanceMethod yX3_gets, Cond.selects RX3 yX3_gets yX3_gets, Cond.code yX3_gets cX3_gets 7 none, Cond.methodLink RX3 122 yX3_moved]
def wsL_law_r11 : List Cond := [Cond.instanceMethod yX3_moved, Cond.selects RX3 yX3_moved yX3_moved, Cond.code yX3_moved cX3_moved 6 (some .boolean), Cond.methodLink RX3 129 yX3_gives, Cond.instanceMethod yX3_gives, Cond.selects RX3 yX3_gives yX3_gives, Cond.code yX3_gives cX3_gives 5 (some .long), Cond.methodLink RX3 88 yX3_plain, Cond.instanceMethod yX3_plain, Cond.selects RX3 yX3_plain yX3_plain, Cond.code yX3_plain cX3_plain 4 (some .long), Cond.methodLink RX3 99 yX3_signed, Cond.instanceMethod yX3_signed, Cond.selects RX3 yX3_signed yX3_signed, Cond.code yX3_signed cX3_signed 6 (some .long), Cond.constantLong RX3 84 (2147483648), Cond.constantLong RX3 86 (-9223372036854775808), Cond.methodLink RX3 103 yX3_sizeOf, Cond.instanceMethod yX3_sizeOf, Cond.selects RX3 yX3_sizeOf yX3_sizeOf, Cond.code yX3_sizeOf cX3_sizeOf 4 (some .long), Cond.methodLink RX3 140 yX3_keep, Cond.instanceMethod yX3_keep, Cond.selects RX3 yX3_keep yX3_keep]
def wsL_law_r12 : List Cond := [Cond.code yX3_keep cX3_keep 2 none, Cond.fieldLink RX3 143 "DetentCabinetModel" "steps" "I", Cond.methodLink RL 30 yX2_turn, Cond.instanceMethod yX2_turn, Cond.selects RX2 yX2_turn yX2_turn, Cond.code yX2_turn cX2_turn 3 (some .int), Cond.methodLink RX2 74 yX2_faultOfTurn, Cond.instanceMethod yX2_faultOfTurn, Cond.selects RX2 yX2_faultOfTurn yX2_faultOfTurn, Cond.code yX2_faultOfTurn cX2_faultOfTurn 4 (some .int), Cond.methodLink RX2 78 yX0_turned, Cond.static yX0_turned, Cond.code yX0_turned cX0_turned 4 (some .long), Cond.methodLink RX0 53 yX0_sizeOf, Cond.methodLink RX0 56 yX0_oneOf, Cond.static yX0_oneOf, Cond.code yX0_oneOf cX0_oneOf 1 (some .long), Cond.constantLong RX0 77 (127), Cond.constantLong RX0 79 (1023), Cond.methodLink RX0 66 yX0_placesOf, Cond.static yX0_placesOf, Cond.code yX0_placesOf cX0_placesOf 1 (some .int), Cond.methodLink RX0 59 yX0_signed, Cond.methodLink RX0 62 yX0_wholeSize]
def wsL_law_r13 : List Cond := [Cond.static yX0_wholeSize, Cond.code yX0_wholeSize cX0_wholeSize 21 (some .long), Cond.methodLink RX0 69 yX0_isAway, Cond.static yX0_isAway, Cond.code yX0_isAway cX0_isAway 4 (some .boolean), Cond.methodLink RL 34 yX3_turn, Cond.instanceMethod yX3_turn, Cond.selects RX3 yX3_turn yX3_turn, Cond.code yX3_turn cX3_turn 3 (some .int), Cond.methodLink RX3 164 yX3_turned, Cond.instanceMethod yX3_turned, Cond.selects RX3 yX3_turned yX3_turned, Cond.code yX3_turned cX3_turned 5 (some .long), Cond.methodLink RX3 106 yX3_whole, Cond.instanceMethod yX3_whole, Cond.selects RX3 yX3_whole yX3_whole, Cond.code yX3_whole cX3_whole 18 (some .long), Cond.methodLink RX3 95 yX3_one, Cond.instanceMethod yX3_one, Cond.selects RX3 yX3_one yX3_one, Cond.code yX3_one cX3_one 2 (some .long), Cond.constantLong RX3 91 (1065353216), Cond.constantLong RX3 93 (4607182418800017408), Cond.methodLink RL 35 yX2_take]
def wsL_law_r14 : List Cond := [Cond.instanceMethod yX2_take, Cond.selects RX2 yX2_take yX2_take, Cond.code yX2_take cX2_take 4 (some .int), Cond.methodLink RX2 82 yX2_faultOfTake, Cond.instanceMethod yX2_faultOfTake, Cond.selects RX2 yX2_faultOfTake yX2_faultOfTake, Cond.code yX2_faultOfTake cX2_faultOfTake 4 (some .int), Cond.methodLink RL 38 yX3_take, Cond.instanceMethod yX3_take, Cond.selects RX3 yX3_take yX3_take, Cond.code yX3_take cX3_take 5 (some .int), Cond.methodLink RL 39 yX2_back, Cond.instanceMethod yX2_back, Cond.selects RX2 yX2_back yX2_back, Cond.code yX2_back cX2_back 1 (some .int), Cond.methodLink RX2 89 yX1_held, Cond.instanceMethod yX1_held, Cond.selects RX1 yX1_held yX1_held, Cond.code yX1_held cX1_held 1 (some .int), Cond.methodLink RX2 93 yX1_restoreLatest, Cond.instanceMethod yX1_restoreLatest, Cond.selects RX1 yX1_restoreLatest yX1_restoreLatest, Cond.code yX1_restoreLatest cX1_restoreLatest 7 (some .int), Cond.methodLink RL 43 yX3_back]
def wsL_law_r15 : List Cond := [Cond.instanceMethod yX3_back, Cond.selects RX3 yX3_back yX3_back, Cond.code yX3_back cX3_back 5 (some .int), Cond.methodLink RL 44 yX2_order, Cond.instanceMethod yX2_order, Cond.selects RX2 yX2_order yX2_order, Cond.code yX2_order cX2_order 3 (some .int), Cond.methodLink RX2 97 yX2_faultOfOrder, Cond.instanceMethod yX2_faultOfOrder, Cond.selects RX2 yX2_faultOfOrder yX2_faultOfOrder, Cond.code yX2_faultOfOrder cX2_faultOfOrder 3 (some .int), Cond.methodLink RL 47 yX3_order, Cond.instanceMethod yX3_order, Cond.selects RX3 yX3_order yX3_order, Cond.code yX3_order cX3_order 3 (some .int), Cond.methodLink RL 48 yX2_look, Cond.instanceMethod yX2_look, Cond.selects RX2 yX2_look yX2_look, Cond.code yX2_look cX2_look 3 (some .long), Cond.methodLink RL 52 yX3_look, Cond.instanceMethod yX3_look, Cond.selects RX3 yX3_look yX3_look, Cond.code yX3_look cX3_look 3 (some .long), Cond.methodLink RL 53 yX2_count]
def wsL_law_r16 : List Cond := [Cond.instanceMethod yX2_count, Cond.selects RX2 yX2_count yX2_count, Cond.code yX2_count cX2_count 2 (some .int), Cond.methodLink RL 57 yX3_count, Cond.instanceMethod yX3_count, Cond.selects RX3 yX3_count yX3_count, Cond.code yX3_count cX3_count 2 (some .int)]
def wsL_law : List Cond := (wsL_law_r1 ++ (wsL_law_r2 ++ (wsL_law_r3 ++ (wsL_law_r4 ++ (wsL_law_r5 ++ (wsL_law_r6 ++ (wsL_law_r7 ++ (wsL_law_r8 ++ (wsL_law_r9 ++ (wsL_law_r10 ++ (wsL_law_r11 ++ (wsL_law_r12 ++ (wsL_law_r13 ++ (wsL_law_r14 ++ (wsL_law_r15 ++ wsL_law_r16))))))))))))))) ++ wsX20 ++ wsX30 ++ wsX10 ++ ([] : List Cond)
theorem inlX1 : ∀ w ∈ wsX10, w ∈ wsL_law := fun _ h => List.mem_append_left _ (List.mem_append_right _ h)
theorem inlX2 : ∀ w ∈ wsX20, w ∈ wsL_law := fun _ h => List.mem_append_left _ (List.mem_append_left _ (List.mem_append_left _ (List.mem_append_right _ h)))
theorem inlX3 : ∀ w ∈ wsX30, w ∈ wsL_law := fun _ h => List.mem_append_left _ (List.mem_append_left _ (List.mem_append_right _ h))
end
section
theorem dX0_isReal_0 : decode cX0_isReal 0 = .ok (.iload_n 0, 1) := by decide +kernel
theorem dX0_isReal_1 : decode cX0_isReal 1 = .ok (.iconst 2, 1) := by decide +kernel
theorem dX0_isReal_2 : decode cX0_isReal 2 = .ok (.if_icmp .eq 8, 3) := by decide +kernel
theorem dX0_isReal_5 : decode cX0_isReal 5 = .ok (.iload_n 0, 1) := by decide +kernel
theorem dX0_isReal_6 : decode cX0_isReal 6 = .ok (.iconst 3, 1) := by decide +kernel
theorem dX0_isReal_7 : decode cX0_isReal 7 = .ok (.if_icmp .ne 7, 3) := by decide +kernel
theorem dX0_isReal_10 : decode cX0_isReal 10 = .ok (.iconst 1, 1) := by decide +kernel
theorem dX0_isReal_11 : decode cX0_isReal 11 = .ok (.goto 4, 3) := by decide +kernel
theorem dX0_isReal_14 : decode cX0_isReal 14 = .ok (.iconst 0, 1) := by decide +kernel
theorem dX0_isReal_15 : decode cX0_isReal 15 = .ok (.ireturn, 1) := by decide +kernel
theorem dX0_isOfKind_0 : decode cX0_isOfKind 0 = .ok (.lload_n 1, 1) := by decide +kernel
theorem dX0_isOfKind_1 : decode cX0_isOfKind 1 = .ok (.ldc2_w 11, 3) := by decide +kernel
theorem dX0_isOfKind_4 : decode cX0_isOfKind 4 = .ok (.lcmp, 1) := by decide +kernel
theorem dX0_isOfKind_5 : decode cX0_isOfKind 5 = .ok (.ifCond .lt 15, 3) := by decide +kernel
theorem dX0_isOfKind_8 : decode cX0_isOfKind 8 = .ok (.lload_n 1, 1) := by decide +kernel
theorem dX0_isOfKind_9 : decode cX0_isOfKind 9 = .ok (.ldc2_w 13, 3) := by decide +kernel
theorem dX0_isOfKind_12 : decode cX0_isOfKind 12 = .ok (.lcmp, 1) := by decide +kernel
theorem dX0_isOfKind_13 : decode cX0_isOfKind 13 = .ok (.ifCond .gt 7, 3) := by decide +kernel
theorem dX0_isOfKind_16 : decode cX0_isOfKind 16 = .ok (.iconst 1, 1) := by decide +kernel
theorem dX0_isOfKind_17 : decode cX0_isOfKind 17 = .ok (.goto 4, 3) := by decide +kernel
theorem dX0_isOfKind_20 : decode cX0_isOfKind 20 = .ok (.iconst 0, 1) := by decide +kernel
theorem dX0_isOfKind_21 : decode cX0_isOfKind 21 = .ok (.istore_n 3, 1) := by decide +kernel
theorem dX0_isOfKind_22 : decode cX0_isOfKind 22 = .ok (.iload_n 0, 1) := by decide +kernel
theorem dX0_isOfKind_23 : decode cX0_isOfKind 23 = .ok (.tableswitch 71 0 3 #[29, 71, 31, 53], 29) := by decide +kernel
theorem dX0_isOfKind_52 : decode cX0_isOfKind 52 = .ok (.iload_n 3, 1) := by decide +kernel
theorem dX0_isOfKind_53 : decode cX0_isOfKind 53 = .ok (.ireturn, 1) := by decide +kernel
theorem dX0_isOfKind_54 : decode cX0_isOfKind 54 = .ok (.iload_n 3, 1) := by decide +kernel
theorem dX0_isOfKind_55 : decode cX0_isOfKind 55 = .ok (.ifCond .eq 19, 3) := by decide +kernel
theorem dX0_isOfKind_58 : decode cX0_isOfKind 58 = .ok (.lload_n 1, 1) := by decide +kernel
theorem dX0_isOfKind_59 : decode cX0_isOfKind 59 = .ok (.ldc2_w 13, 3) := by decide +kernel
theorem dX0_isOfKind_62 : decode cX0_isOfKind 62 = .ok (.land, 1) := by decide +kernel
theorem dX0_isOfKind_63 : decode cX0_isOfKind 63 = .ok (.ldc2_w 17, 3) := by decide +kernel
theorem dX0_isOfKind_66 : decode cX0_isOfKind 66 = .ok (.lcmp, 1) := by decide +kernel
theorem dX0_isOfKind_67 : decode cX0_isOfKind 67 = .ok (.ifCond .gt 7, 3) := by decide +kernel
theorem dX0_isOfKind_70 : decode cX0_isOfKind 70 = .ok (.iconst 1, 1) := by decide +kernel
theorem dX0_isOfKind_71 : decode cX0_isOfKind 71 = .ok (.goto 4, 3) := by decide +kernel
theorem dX0_isOfKind_74 : decode cX0_isOfKind 74 = .ok (.iconst 0, 1) := by decide +kernel
theorem dX0_isOfKind_75 : decode cX0_isOfKind 75 = .ok (.ireturn, 1) := by decide +kernel
theorem dX0_isOfKind_76 : decode cX0_isOfKind 76 = .ok (.lload_n 1, 1) := by decide +kernel
theorem dX0_isOfKind_77 : decode cX0_isOfKind 77 = .ok (.ldc2_w 19, 3) := by decide +kernel
theorem dX0_isOfKind_80 : decode cX0_isOfKind 80 = .ok (.land, 1) := by decide +kernel
theorem dX0_isOfKind_81 : decode cX0_isOfKind 81 = .ok (.ldc2_w 21, 3) := by decide +kernel
theorem dX0_isOfKind_84 : decode cX0_isOfKind 84 = .ok (.lcmp, 1) := by decide +kernel
theorem dX0_isOfKind_85 : decode cX0_isOfKind 85 = .ok (.ifCond .gt 7, 3) := by decide +kernel
theorem dX0_isOfKind_88 : decode cX0_isOfKind 88 = .ok (.iconst 1, 1) := by decide +kernel
theorem dX0_isOfKind_89 : decode cX0_isOfKind 89 = .ok (.goto 4, 3) := by decide +kernel
theorem dX0_isOfKind_92 : decode cX0_isOfKind 92 = .ok (.iconst 0, 1) := by decide +kernel
theorem dX0_isOfKind_93 : decode cX0_isOfKind 93 = .ok (.ireturn, 1) := by decide +kernel
theorem dX0_isOfKind_94 : decode cX0_isOfKind 94 = .ok (.iconst 1, 1) := by decide +kernel
theorem dX0_isOfKind_95 : decode cX0_isOfKind 95 = .ok (.ireturn, 1) := by decide +kernel
set_option maxRecDepth 20000 in
theorem ggX0_compared_X0_rank : GoodIn wsX0_compared wsX0_rank := goodIn_r _ [4, 5, 6, 3, 7, 8, 9, 10, 11, 12] (by decide +kernel) (by decide +kernel)
set_option maxRecDepth 20000 in
theorem gX0_compared_X0_rank : GoodIn wsX0_compared (va_wsS RX0 23 yX0_rank wsX0_rank) := goodIn_app (goodIn_of _ (by decide +kernel)) ggX0_compared_X0_rank
theorem dX0_compared_0 : decode cX0_compared 0 = .ok (.iload_n 0, 1) := by decide +kernel
theorem dX0_compared_1 : decode cX0_compared 1 = .ok (.lload_n 1, 1) := by decide +kernel
theorem dX0_compared_2 : decode cX0_compared 2 = .ok (.invokestatic 23, 3) := by decide +kernel
theorem dX0_compared_5 : decode cX0_compared 5 = .ok (.lstore 5, 2) := by decide +kernel
theorem dX0_compared_7 : decode cX0_compared 7 = .ok (.iload_n 0, 1) := by decide +kernel
theorem dX0_compared_8 : decode cX0_compared 8 = .ok (.lload_n 3, 1) := by decide +kernel
theorem dX0_compared_9 : decode cX0_compared 9 = .ok (.invokestatic 23, 3) := by decide +kernel
theorem dX0_compared_12 : decode cX0_compared 12 = .ok (.lstore 7, 2) := by decide +kernel
theorem dX0_compared_14 : decode cX0_compared 14 = .ok (.lload 5, 2) := by decide +kernel
theorem dX0_compared_16 : decode cX0_compared 16 = .ok (.lload 7, 2) := by decide +kernel
theorem dX0_compared_18 : decode cX0_compared 18 = .ok (.lcmp, 1) := by decide +kernel
theorem dX0_compared_19 : decode cX0_compared 19 = .ok (.ifCond .le 7, 3) := by decide +kernel
theorem dX0_compared_22 : decode cX0_compared 22 = .ok (.iconst 1, 1) := by decide +kernel
theorem dX0_compared_23 : decode cX0_compared 23 = .ok (.goto 16, 3) := by decide +kernel
theorem dX0_compared_26 : decode cX0_compared 26 = .ok (.lload 5, 2) := by decide +kernel
theorem dX0_compared_28 : decode cX0_compared 28 = .ok (.lload 7, 2) := by decide +kernel
theorem dX0_compared_30 : decode cX0_compared 30 = .ok (.lcmp, 1) := by decide +kernel
theorem dX0_compared_31 : decode cX0_compared 31 = .ok (.ifCond .ge 7, 3) := by decide +kernel
theorem dX0_compared_34 : decode cX0_compared 34 = .ok (.iconst (-1), 1) := by decide +kernel
theorem dX0_compared_35 : decode cX0_compared 35 = .ok (.goto 4, 3) := by decide +kernel
theorem dX0_compared_38 : decode cX0_compared 38 = .ok (.iconst 0, 1) := by decide +kernel
theorem dX0_compared_39 : decode cX0_compared 39 = .ok (.ireturn, 1) := by decide +kernel
set_option maxRecDepth 20000 in
theorem ggX0_greater_X0_compared : GoodIn wsX0_greater wsX0_compared := goodIn_r _ [4, 5, 6, 3, 7, 8, 9, 10, 11, 12, 13, 14, 15] (by decide +kernel) (by decide +kernel)
set_option maxRecDepth 20000 in
theorem gX0_greater_X0_compared : GoodIn wsX0_greater (va_wsS RX0 27 yX0_compared wsX0_compared) := goodIn_app (goodIn_of _ (by decide +kernel)) ggX0_greater_X0_compared
theorem dX0_greater_0 : decode cX0_greater 0 = .ok (.iload_n 0, 1) := by decide +kernel
theorem dX0_greater_1 : decode cX0_greater 1 = .ok (.lload_n 1, 1) := by decide +kernel
theorem dX0_greater_2 : decode cX0_greater 2 = .ok (.lload_n 3, 1) := by decide +kernel
theorem dX0_greater_3 : decode cX0_greater 3 = .ok (.invokestatic 27, 3) := by decide +kernel
theorem dX0_greater_6 : decode cX0_greater 6 = .ok (.ifCond .lt 7, 3) := by decide +kernel
theorem dX0_greater_9 : decode cX0_greater 9 = .ok (.lload_n 1, 1) := by decide +kernel
theorem dX0_greater_10 : decode cX0_greater 10 = .ok (.goto 4, 3) := by decide +kernel
theorem dX0_greater_13 : decode cX0_greater 13 = .ok (.lload_n 3, 1) := by decide +kernel
theorem dX0_greater_14 : decode cX0_greater 14 = .ok (.lreturn, 1) := by decide +kernel
set_option maxRecDepth 20000 in
theorem ggX0_less_X0_compared : GoodIn wsX0_less wsX0_compared := goodIn_r _ [4, 5, 6, 3, 7, 8, 9, 10, 11, 12, 13, 14, 15] (by decide +kernel) (by decide +kernel)
set_option maxRecDepth 20000 in
theorem gX0_less_X0_compared : GoodIn wsX0_less (va_wsS RX0 27 yX0_compared wsX0_compared) := goodIn_app (goodIn_of _ (by decide +kernel)) ggX0_less_X0_compared
theorem dX0_less_0 : decode cX0_less 0 = .ok (.iload_n 0, 1) := by decide +kernel
theorem dX0_less_1 : decode cX0_less 1 = .ok (.lload_n 1, 1) := by decide +kernel
theorem dX0_less_2 : decode cX0_less 2 = .ok (.lload_n 3, 1) := by decide +kernel
theorem dX0_less_3 : decode cX0_less 3 = .ok (.invokestatic 27, 3) := by decide +kernel
theorem dX0_less_6 : decode cX0_less 6 = .ok (.ifCond .gt 7, 3) := by decide +kernel
theorem dX0_less_9 : decode cX0_less 9 = .ok (.lload_n 1, 1) := by decide +kernel
theorem dX0_less_10 : decode cX0_less 10 = .ok (.goto 4, 3) := by decide +kernel
theorem dX0_less_13 : decode cX0_less 13 = .ok (.lload_n 3, 1) := by decide +kernel
theorem dX0_less_14 : decode cX0_less 14 = .ok (.lreturn, 1) := by decide +kernel
set_option maxRecDepth 20000 in
theorem ggX0_fitted_X0_less : GoodIn wsX0_fitted wsX0_less := goodIn_r _ [4, 5, 6, 3, 7, 8, 9, 10, 11, 12, 13, 14, 15, 16, 17, 18] (by decide +kernel) (by decide +kernel)
set_option maxRecDepth 20000 in
theorem gX0_fitted_X0_less : GoodIn wsX0_fitted (va_wsS RX0 31 yX0_less wsX0_less) := goodIn_app (goodIn_of _ (by decide +kernel)) ggX0_fitted_X0_less
set_option maxRecDepth 20000 in
theorem ggX0_fitted_X0_greater : GoodIn wsX0_fitted wsX0_greater := goodIn_r _ [21, 5, 6, 3, 7, 8, 9, 10, 11, 12, 13, 14, 15, 16, 17, 18] (by decide +kernel) (by decide +kernel)
set_option maxRecDepth 20000 in
theorem gX0_fitted_X0_greater : GoodIn wsX0_fitted (va_wsS RX0 35 yX0_greater wsX0_greater) := goodIn_app (goodIn_of _ (by decide +kernel)) ggX0_fitted_X0_greater
theorem dX0_fitted_0 : decode cX0_fitted 0 = .ok (.iload_n 0, 1) := by decide +kernel
theorem dX0_fitted_1 : decode cX0_fitted 1 = .ok (.lload_n 1, 1) := by decide +kernel
theorem dX0_fitted_2 : decode cX0_fitted 2 = .ok (.iload_n 0, 1) := by decide +kernel
theorem dX0_fitted_3 : decode cX0_fitted 3 = .ok (.lload_n 3, 1) := by decide +kernel
theorem dX0_fitted_4 : decode cX0_fitted 4 = .ok (.lload 5, 2) := by decide +kernel
theorem dX0_fitted_6 : decode cX0_fitted 6 = .ok (.invokestatic 31, 3) := by decide +kernel
theorem dX0_fitted_9 : decode cX0_fitted 9 = .ok (.invokestatic 35, 3) := by decide +kernel
theorem dX0_fitted_12 : decode cX0_fitted 12 = .ok (.lreturn, 1) := by decide +kernel
set_option maxRecDepth 20000 in
theorem ggX0_sizeOf_X0_sizeBits : GoodIn wsX0_sizeOf wsX0_sizeBits := goodIn_r _ [11, 12, 13] (by decide +kernel) (by decide +kernel)
set_option maxRecDepth 20000 in
theorem gX0_sizeOf_X0_sizeBits : GoodIn wsX0_sizeOf (va_wsS RX0 47 yX0_sizeBits wsX0_sizeBits) := goodIn_app (goodIn_of _ (by decide +kernel)) ggX0_sizeOf_X0_sizeBits
theorem dX0_sizeOf_0 : decode cX0_sizeOf 0 = .ok (.iload_n 0, 1) := by decide +kernel
theorem dX0_sizeOf_1 : decode cX0_sizeOf 1 = .ok (.lookupswitch 39 #[(0, 27), (1, 34)], 27) := by decide +kernel
theorem dX0_sizeOf_28 : decode cX0_sizeOf 28 = .ok (.lload_n 1, 1) := by decide +kernel
theorem dX0_sizeOf_29 : decode cX0_sizeOf 29 = .ok (.l2i, 1) := by decide +kernel
theorem dX0_sizeOf_30 : decode cX0_sizeOf 30 = .ok (.invokestatic 38, 3) := by decide +kernel
theorem dX0_sizeOf_33 : decode cX0_sizeOf 33 = .ok (.i2l, 1) := by decide +kernel
theorem dX0_sizeOf_34 : decode cX0_sizeOf 34 = .ok (.lreturn, 1) := by decide +kernel
theorem dX0_sizeOf_35 : decode cX0_sizeOf 35 = .ok (.lload_n 1, 1) := by decide +kernel
theorem dX0_sizeOf_36 : decode cX0_sizeOf 36 = .ok (.invokestatic 44, 3) := by decide +kernel
theorem dX0_sizeOf_39 : decode cX0_sizeOf 39 = .ok (.lreturn, 1) := by decide +kernel
theorem dX0_sizeOf_40 : decode cX0_sizeOf 40 = .ok (.lload_n 1, 1) := by decide +kernel
theorem dX0_sizeOf_41 : decode cX0_sizeOf 41 = .ok (.iload_n 0, 1) := by decide +kernel
theorem dX0_sizeOf_42 : decode cX0_sizeOf 42 = .ok (.invokestatic 47, 3) := by decide +kernel
theorem dX0_sizeOf_45 : decode cX0_sizeOf 45 = .ok (.land, 1) := by decide +kernel
theorem dX0_sizeOf_46 : decode cX0_sizeOf 46 = .ok (.lreturn, 1) := by decide +kernel
set_option maxRecDepth 20000 in
theorem ggX0_signed_X0_sizeBits : GoodIn wsX0_signed wsX0_sizeBits := goodIn_r _ [5, 6, 7] (by decide +kernel) (by decide +kernel)
set_option maxRecDepth 20000 in
theorem gX0_signed_X0_sizeBits : GoodIn wsX0_signed (va_wsS RX0 47 yX0_sizeBits wsX0_sizeBits) := goodIn_app (goodIn_of _ (by decide +kernel)) ggX0_signed_X0_sizeBits
theorem dX0_signed_0 : decode cX0_signed 0 = .ok (.iload_n 0, 1) := by decide +kernel
theorem dX0_signed_1 : decode cX0_signed 1 = .ok (.invokestatic 47, 3) := by decide +kernel
theorem dX0_signed_4 : decode cX0_signed 4 = .ok (.lstore 5, 2) := by decide +kernel
theorem dX0_signed_6 : decode cX0_signed 6 = .ok (.lload_n 3, 1) := by decide +kernel
theorem dX0_signed_7 : decode cX0_signed 7 = .ok (.lconst 0, 1) := by decide +kernel
theorem dX0_signed_8 : decode cX0_signed 8 = .ok (.lcmp, 1) := by decide +kernel
theorem dX0_signed_9 : decode cX0_signed 9 = .ok (.ifCond .ge 14, 3) := by decide +kernel
theorem dX0_signed_12 : decode cX0_signed 12 = .ok (.lload_n 1, 1) := by decide +kernel
theorem dX0_signed_13 : decode cX0_signed 13 = .ok (.lload 5, 2) := by decide +kernel
theorem dX0_signed_15 : decode cX0_signed 15 = .ok (.ldc2_w 51, 3) := by decide +kernel
theorem dX0_signed_18 : decode cX0_signed 18 = .ok (.lxor, 1) := by decide +kernel
theorem dX0_signed_19 : decode cX0_signed 19 = .ok (.lor, 1) := by decide +kernel
theorem dX0_signed_20 : decode cX0_signed 20 = .ok (.goto 7, 3) := by decide +kernel
theorem dX0_signed_23 : decode cX0_signed 23 = .ok (.lload_n 1, 1) := by decide +kernel
theorem dX0_signed_24 : decode cX0_signed 24 = .ok (.lload 5, 2) := by decide +kernel
theorem dX0_signed_26 : decode cX0_signed 26 = .ok (.land, 1) := by decide +kernel
theorem dX0_signed_27 : decode cX0_signed 27 = .ok (.lreturn, 1) := by decide +kernel
set_option maxRecDepth 20000 in
theorem ggX0_turned_X0_sizeOf : GoodIn wsX0_turned wsX0_sizeOf := goodIn_r _ [4, 5, 6, 7, 8, 9, 10, 11, 12, 13, 3, 14, 15, 16] (by decide +kernel) (by decide +kernel)
set_option maxRecDepth 20000 in
theorem gX0_turned_X0_sizeOf : GoodIn wsX0_turned (va_wsS RX0 53 yX0_sizeOf wsX0_sizeOf) := goodIn_app (goodIn_of _ (by decide +kernel)) ggX0_turned_X0_sizeOf
set_option maxRecDepth 20000 in
theorem ggX0_turned_X0_oneOf : GoodIn wsX0_turned wsX0_oneOf := goodIn_r _ [19, 20, 21, 22, 23, 3, 24] (by decide +kernel) (by decide +kernel)
set_option maxRecDepth 20000 in
theorem gX0_turned_X0_oneOf : GoodIn wsX0_turned (va_wsS RX0 56 yX0_oneOf wsX0_oneOf) := goodIn_app (goodIn_of _ (by decide +kernel)) ggX0_turned_X0_oneOf
set_option maxRecDepth 20000 in
theorem ggX0_turned_X0_signed : GoodIn wsX0_turned wsX0_signed := goodIn_r _ [27, 28, 12, 13, 3, 14, 15, 16] (by decide +kernel) (by decide +kernel)
set_option maxRecDepth 20000 in
theorem gX0_turned_X0_signed : GoodIn wsX0_turned (va_wsS RX0 59 yX0_signed wsX0_signed) := goodIn_app (goodIn_of _ (by decide +kernel)) ggX0_turned_X0_signed
set_option maxRecDepth 20000 in
theorem ggX0_turned_X0_wholeSize : GoodIn wsX0_turned wsX0_wholeSize := goodIn_r _ [31, 22, 23, 3, 24, 1, 2, 4, 5, 6, 7, 8, 9, 10, 11, 12, 13, 14, 15, 16, 17, 18, 19, 20, 21, 32, 33, 34] (by decide +kernel) (by decide +kernel)
set_option maxRecDepth 20000 in
theorem gX0_turned_X0_wholeSize : GoodIn wsX0_turned (va_wsS RX0 62 yX0_wholeSize wsX0_wholeSize) := goodIn_app (goodIn_of _ (by decide +kernel)) ggX0_turned_X0_wholeSize
theorem dX0_turned_0 : decode cX0_turned 0 = .ok (.iload_n 3, 1) := by decide +kernel
theorem dX0_turned_1 : decode cX0_turned 1 = .ok (.ifCond .ne 9, 3) := by decide +kernel
theorem dX0_turned_4 : decode cX0_turned 4 = .ok (.iload_n 0, 1) := by decide +kernel
theorem dX0_turned_5 : decode cX0_turned 5 = .ok (.lload_n 1, 1) := by decide +kernel
theorem dX0_turned_6 : decode cX0_turned 6 = .ok (.invokestatic 53, 3) := by decide +kernel
theorem dX0_turned_9 : decode cX0_turned 9 = .ok (.lreturn, 1) := by decide +kernel
theorem dX0_turned_10 : decode cX0_turned 10 = .ok (.iload_n 0, 1) := by decide +kernel
theorem dX0_turned_11 : decode cX0_turned 11 = .ok (.lload_n 1, 1) := by decide +kernel
theorem dX0_turned_12 : decode cX0_turned 12 = .ok (.invokestatic 53, 3) := by decide +kernel
theorem dX0_turned_15 : decode cX0_turned 15 = .ok (.lconst 0, 1) := by decide +kernel
theorem dX0_turned_16 : decode cX0_turned 16 = .ok (.lcmp, 1) := by decide +kernel
theorem dX0_turned_17 : decode cX0_turned 17 = .ok (.ifCond .ne 5, 3) := by decide +kernel
theorem dX0_turned_20 : decode cX0_turned 20 = .ok (.lload_n 1, 1) := by decide +kernel
theorem dX0_turned_21 : decode cX0_turned 21 = .ok (.lreturn, 1) := by decide +kernel
theorem dX0_turned_22 : decode cX0_turned 22 = .ok (.iload_n 3, 1) := by decide +kernel
theorem dX0_turned_23 : decode cX0_turned 23 = .ok (.iconst 4, 1) := by decide +kernel
theorem dX0_turned_24 : decode cX0_turned 24 = .ok (.if_icmp .ne 13, 3) := by decide +kernel
theorem dX0_turned_27 : decode cX0_turned 27 = .ok (.iload_n 0, 1) := by decide +kernel
theorem dX0_turned_28 : decode cX0_turned 28 = .ok (.iload_n 0, 1) := by decide +kernel
theorem dX0_turned_29 : decode cX0_turned 29 = .ok (.invokestatic 56, 3) := by decide +kernel
theorem dX0_turned_32 : decode cX0_turned 32 = .ok (.lload_n 1, 1) := by decide +kernel
theorem dX0_turned_33 : decode cX0_turned 33 = .ok (.invokestatic 59, 3) := by decide +kernel
theorem dX0_turned_36 : decode cX0_turned 36 = .ok (.lreturn, 1) := by decide +kernel
theorem dX0_turned_37 : decode cX0_turned 37 = .ok (.iload_n 0, 1) := by decide +kernel
theorem dX0_turned_38 : decode cX0_turned 38 = .ok (.iload_n 0, 1) := by decide +kernel
theorem dX0_turned_39 : decode cX0_turned 39 = .ok (.lload_n 1, 1) := by decide +kernel
theorem dX0_turned_40 : decode cX0_turned 40 = .ok (.iload_n 3, 1) := by decide +kernel
theorem dX0_turned_41 : decode cX0_turned 41 = .ok (.invokestatic 62, 3) := by decide +kernel
theorem dX0_turned_44 : decode cX0_turned 44 = .ok (.lload_n 1, 1) := by decide +kernel
theorem dX0_turned_45 : decode cX0_turned 45 = .ok (.invokestatic 59, 3) := by decide +kernel
theorem dX0_turned_48 : decode cX0_turned 48 = .ok (.lreturn, 1) := by decide +kernel
set_option maxRecDepth 20000 in
theorem ggX0_wholeSize_X0_placesOf : GoodIn wsX0_wholeSize wsX0_placesOf := goodIn_r _ [4] (by decide +kernel) (by decide +kernel)
set_option maxRecDepth 20000 in
theorem gX0_wholeSize_X0_placesOf : GoodIn wsX0_wholeSize (va_wsS RX0 66 yX0_placesOf wsX0_placesOf) := goodIn_app (goodIn_of _ (by decide +kernel)) ggX0_wholeSize_X0_placesOf
set_option maxRecDepth 20000 in
theorem ggX0_wholeSize_X0_sizeOf : GoodIn wsX0_wholeSize wsX0_sizeOf := goodIn_r _ [7, 8, 9, 10, 11, 12, 13, 14, 15, 16, 3, 17, 18, 19] (by decide +kernel) (by decide +kernel)
set_option maxRecDepth 20000 in
theorem gX0_wholeSize_X0_sizeOf : GoodIn wsX0_wholeSize (va_wsS RX0 53 yX0_sizeOf wsX0_sizeOf) := goodIn_app (goodIn_of _ (by decide +kernel)) ggX0_wholeSize_X0_sizeOf
set_option maxRecDepth 20000 in
theorem ggX0_wholeSize_X0_oneOf : GoodIn wsX0_wholeSize wsX0_oneOf := goodIn_r _ [22, 23, 24, 1, 2, 3, 4] (by decide +kernel) (by decide +kernel)
set_option maxRecDepth 20000 in
theorem gX0_wholeSize_X0_oneOf : GoodIn wsX0_wholeSize (va_wsS RX0 56 yX0_oneOf wsX0_oneOf) := goodIn_app (goodIn_of _ (by decide +kernel)) ggX0_wholeSize_X0_oneOf
set_option maxRecDepth 20000 in
theorem ggX0_wholeSize_X0_isAway : GoodIn wsX0_wholeSize wsX0_isAway := goodIn_r _ [27] (by decide +kernel) (by decide +kernel)
set_option maxRecDepth 20000 in
theorem gX0_wholeSize_X0_isAway : GoodIn wsX0_wholeSize (va_wsS RX0 69 yX0_isAway wsX0_isAway) := goodIn_app (goodIn_of _ (by decide +kernel)) ggX0_wholeSize_X0_isAway
theorem dX0_wholeSize_0 : decode cX0_wholeSize 0 = .ok (.iload_n 0, 1) := by decide +kernel
theorem dX0_wholeSize_1 : decode cX0_wholeSize 1 = .ok (.invokestatic 66, 3) := by decide +kernel
theorem dX0_wholeSize_4 : decode cX0_wholeSize 4 = .ok (.istore 4, 2) := by decide +kernel
theorem dX0_wholeSize_6 : decode cX0_wholeSize 6 = .ok (.iload_n 0, 1) := by decide +kernel
theorem dX0_wholeSize_7 : decode cX0_wholeSize 7 = .ok (.lload_n 1, 1) := by decide +kernel
theorem dX0_wholeSize_8 : decode cX0_wholeSize 8 = .ok (.invokestatic 53, 3) := by decide +kernel
theorem dX0_wholeSize_11 : decode cX0_wholeSize 11 = .ok (.lstore 5, 2) := by decide +kernel
theorem dX0_wholeSize_13 : decode cX0_wholeSize 13 = .ok (.iload_n 0, 1) := by decide +kernel
theorem dX0_wholeSize_14 : decode cX0_wholeSize 14 = .ok (.invokestatic 56, 3) := by decide +kernel
theorem dX0_wholeSize_17 : decode cX0_wholeSize 17 = .ok (.lstore 7, 2) := by decide +kernel
theorem dX0_wholeSize_19 : decode cX0_wholeSize 19 = .ok (.lload 5, 2) := by decide +kernel
theorem dX0_wholeSize_21 : decode cX0_wholeSize 21 = .ok (.lload 7, 2) := by decide +kernel
theorem dX0_wholeSize_23 : decode cX0_wholeSize 23 = .ok (.lcmp, 1) := by decide +kernel
theorem dX0_wholeSize_24 : decode cX0_wholeSize 24 = .ok (.ifCond .ge 40, 3) := by decide +kernel
theorem dX0_wholeSize_27 : decode cX0_wholeSize 27 = .ok (.lload 7, 2) := by decide +kernel
theorem dX0_wholeSize_29 : decode cX0_wholeSize 29 = .ok (.lconst 1, 1) := by decide +kernel
theorem dX0_wholeSize_30 : decode cX0_wholeSize 30 = .ok (.iload 4, 2) := by decide +kernel
theorem dX0_wholeSize_32 : decode cX0_wholeSize 32 = .ok (.lshl, 1) := by decide +kernel
theorem dX0_wholeSize_33 : decode cX0_wholeSize 33 = .ok (.lsub, 1) := by decide +kernel
theorem dX0_wholeSize_34 : decode cX0_wholeSize 34 = .ok (.lstore 9, 2) := by decide +kernel
theorem dX0_wholeSize_36 : decode cX0_wholeSize 36 = .ok (.lload_n 1, 1) := by decide +kernel
theorem dX0_wholeSize_37 : decode cX0_wholeSize 37 = .ok (.iload_n 3, 1) := by decide +kernel
theorem dX0_wholeSize_38 : decode cX0_wholeSize 38 = .ok (.lload 5, 2) := by decide +kernel
theorem dX0_wholeSize_40 : decode cX0_wholeSize 40 = .ok (.lload 9, 2) := by decide +kernel
theorem dX0_wholeSize_42 : decode cX0_wholeSize 42 = .ok (.lcmp, 1) := by decide +kernel
theorem dX0_wholeSize_43 : decode cX0_wholeSize 43 = .ok (.ifCond .le 7, 3) := by decide +kernel
theorem dX0_wholeSize_46 : decode cX0_wholeSize 46 = .ok (.iconst 1, 1) := by decide +kernel
theorem dX0_wholeSize_47 : decode cX0_wholeSize 47 = .ok (.goto 4, 3) := by decide +kernel
theorem dX0_wholeSize_50 : decode cX0_wholeSize 50 = .ok (.iconst 0, 1) := by decide +kernel
theorem dX0_wholeSize_51 : decode cX0_wholeSize 51 = .ok (.invokestatic 69, 3) := by decide +kernel
theorem dX0_wholeSize_54 : decode cX0_wholeSize 54 = .ok (.ifCond .eq 8, 3) := by decide +kernel
theorem dX0_wholeSize_57 : decode cX0_wholeSize 57 = .ok (.lload 7, 2) := by decide +kernel
theorem dX0_wholeSize_59 : decode cX0_wholeSize 59 = .ok (.goto 4, 3) := by decide +kernel
theorem dX0_wholeSize_62 : decode cX0_wholeSize 62 = .ok (.lconst 0, 1) := by decide +kernel
theorem dX0_wholeSize_63 : decode cX0_wholeSize 63 = .ok (.lreturn, 1) := by decide +kernel
theorem dX0_wholeSize_64 : decode cX0_wholeSize 64 = .ok (.lload 5, 2) := by decide +kernel
theorem dX0_wholeSize_66 : decode cX0_wholeSize 66 = .ok (.lload 7, 2) := by decide +kernel
theorem dX0_wholeSize_68 : decode cX0_wholeSize 68 = .ok (.lsub, 1) := by decide +kernel
theorem dX0_wholeSize_69 : decode cX0_wholeSize 69 = .ok (.iload 4, 2) := by decide +kernel
theorem dX0_wholeSize_71 : decode cX0_wholeSize 71 = .ok (.lshr, 1) := by decide +kernel
theorem dX0_wholeSize_72 : decode cX0_wholeSize 72 = .ok (.lstore 9, 2) := by decide +kernel
theorem dX0_wholeSize_74 : decode cX0_wholeSize 74 = .ok (.lload 9, 2) := by decide +kernel
theorem dX0_wholeSize_76 : decode cX0_wholeSize 76 = .ok (.iload 4, 2) := by decide +kernel
theorem dX0_wholeSize_78 : decode cX0_wholeSize 78 = .ok (.i2l, 1) := by decide +kernel
theorem dX0_wholeSize_79 : decode cX0_wholeSize 79 = .ok (.lcmp, 1) := by decide +kernel
theorem dX0_wholeSize_80 : decode cX0_wholeSize 80 = .ok (.ifCond .lt 6, 3) := by decide +kernel
theorem dX0_wholeSize_83 : decode cX0_wholeSize 83 = .ok (.lload 5, 2) := by decide +kernel
theorem dX0_wholeSize_85 : decode cX0_wholeSize 85 = .ok (.lreturn, 1) := by decide +kernel
theorem dX0_wholeSize_86 : decode cX0_wholeSize 86 = .ok (.lconst 1, 1) := by decide +kernel
theorem dX0_wholeSize_87 : decode cX0_wholeSize 87 = .ok (.iload 4, 2) := by decide +kernel
theorem dX0_wholeSize_89 : decode cX0_wholeSize 89 = .ok (.i2l, 1) := by decide +kernel
theorem dX0_wholeSize_90 : decode cX0_wholeSize 90 = .ok (.lload 9, 2) := by decide +kernel
theorem dX0_wholeSize_92 : decode cX0_wholeSize 92 = .ok (.lsub, 1) := by decide +kernel
theorem dX0_wholeSize_93 : decode cX0_wholeSize 93 = .ok (.l2i, 1) := by decide +kernel
theorem dX0_wholeSize_94 : decode cX0_wholeSize 94 = .ok (.lshl, 1) := by decide +kernel
theorem dX0_wholeSize_95 : decode cX0_wholeSize 95 = .ok (.lstore 11, 2) := by decide +kernel
theorem dX0_wholeSize_97 : decode cX0_wholeSize 97 = .ok (.lload 5, 2) := by decide +kernel
theorem dX0_wholeSize_99 : decode cX0_wholeSize 99 = .ok (.lload 11, 2) := by decide +kernel
theorem dX0_wholeSize_101 : decode cX0_wholeSize 101 = .ok (.lneg, 1) := by decide +kernel
theorem dX0_wholeSize_102 : decode cX0_wholeSize 102 = .ok (.land, 1) := by decide +kernel
theorem dX0_wholeSize_103 : decode cX0_wholeSize 103 = .ok (.lstore 13, 2) := by decide +kernel
theorem dX0_wholeSize_105 : decode cX0_wholeSize 105 = .ok (.lload 5, 2) := by decide +kernel
theorem dX0_wholeSize_107 : decode cX0_wholeSize 107 = .ok (.lload 13, 2) := by decide +kernel
theorem dX0_wholeSize_109 : decode cX0_wholeSize 109 = .ok (.lsub, 1) := by decide +kernel
theorem dX0_wholeSize_110 : decode cX0_wholeSize 110 = .ok (.lstore 15, 2) := by decide +kernel
theorem dX0_wholeSize_112 : decode cX0_wholeSize 112 = .ok (.lload 15, 2) := by decide +kernel
theorem dX0_wholeSize_114 : decode cX0_wholeSize 114 = .ok (.lconst 0, 1) := by decide +kernel
theorem dX0_wholeSize_115 : decode cX0_wholeSize 115 = .ok (.lcmp, 1) := by decide +kernel
theorem dX0_wholeSize_116 : decode cX0_wholeSize 116 = .ok (.ifCond .ne 6, 3) := by decide +kernel
theorem dX0_wholeSize_119 : decode cX0_wholeSize 119 = .ok (.lload 5, 2) := by decide +kernel
theorem dX0_wholeSize_121 : decode cX0_wholeSize 121 = .ok (.lreturn, 1) := by decide +kernel
theorem dX0_wholeSize_122 : decode cX0_wholeSize 122 = .ok (.lload 13, 2) := by decide +kernel
theorem dX0_wholeSize_124 : decode cX0_wholeSize 124 = .ok (.lload 11, 2) := by decide +kernel
theorem dX0_wholeSize_126 : decode cX0_wholeSize 126 = .ok (.land, 1) := by decide +kernel
theorem dX0_wholeSize_127 : decode cX0_wholeSize 127 = .ok (.lconst 0, 1) := by decide +kernel
theorem dX0_wholeSize_128 : decode cX0_wholeSize 128 = .ok (.lcmp, 1) := by decide +kernel
theorem dX0_wholeSize_129 : decode cX0_wholeSize 129 = .ok (.ifCond .eq 7, 3) := by decide +kernel
theorem dX0_wholeSize_132 : decode cX0_wholeSize 132 = .ok (.iconst 1, 1) := by decide +kernel
theorem dX0_wholeSize_133 : decode cX0_wholeSize 133 = .ok (.goto 4, 3) := by decide +kernel
theorem dX0_wholeSize_136 : decode cX0_wholeSize 136 = .ok (.iconst 0, 1) := by decide +kernel
theorem dX0_wholeSize_137 : decode cX0_wholeSize 137 = .ok (.istore 17, 2) := by decide +kernel
theorem dX0_wholeSize_139 : decode cX0_wholeSize 139 = .ok (.lload 11, 2) := by decide +kernel
theorem dX0_wholeSize_141 : decode cX0_wholeSize 141 = .ok (.iconst 1, 1) := by decide +kernel
theorem dX0_wholeSize_142 : decode cX0_wholeSize 142 = .ok (.lshr, 1) := by decide +kernel
theorem dX0_wholeSize_143 : decode cX0_wholeSize 143 = .ok (.lstore 18, 2) := by decide +kernel
theorem dX0_wholeSize_145 : decode cX0_wholeSize 145 = .ok (.lload 15, 2) := by decide +kernel
theorem dX0_wholeSize_147 : decode cX0_wholeSize 147 = .ok (.lload 18, 2) := by decide +kernel
theorem dX0_wholeSize_149 : decode cX0_wholeSize 149 = .ok (.lcmp, 1) := by decide +kernel
theorem dX0_wholeSize_150 : decode cX0_wholeSize 150 = .ok (.ifCond .gt 16, 3) := by decide +kernel
theorem dX0_wholeSize_153 : decode cX0_wholeSize 153 = .ok (.lload 15, 2) := by decide +kernel
theorem dX0_wholeSize_155 : decode cX0_wholeSize 155 = .ok (.lload 18, 2) := by decide +kernel
theorem dX0_wholeSize_157 : decode cX0_wholeSize 157 = .ok (.lcmp, 1) := by decide +kernel
theorem dX0_wholeSize_158 : decode cX0_wholeSize 158 = .ok (.ifCond .ne 12, 3) := by decide +kernel
theorem dX0_wholeSize_161 : decode cX0_wholeSize 161 = .ok (.iload 17, 2) := by decide +kernel
theorem dX0_wholeSize_163 : decode cX0_wholeSize 163 = .ok (.ifCond .eq 7, 3) := by decide +kernel
theorem dX0_wholeSize_166 : decode cX0_wholeSize 166 = .ok (.iconst 1, 1) := by decide +kernel
theorem dX0_wholeSize_167 : decode cX0_wholeSize 167 = .ok (.goto 4, 3) := by decide +kernel
theorem dX0_wholeSize_170 : decode cX0_wholeSize 170 = .ok (.iconst 0, 1) := by decide +kernel
theorem dX0_wholeSize_171 : decode cX0_wholeSize 171 = .ok (.istore 20, 2) := by decide +kernel
theorem dX0_wholeSize_173 : decode cX0_wholeSize 173 = .ok (.lload_n 1, 1) := by decide +kernel
theorem dX0_wholeSize_174 : decode cX0_wholeSize 174 = .ok (.iload_n 3, 1) := by decide +kernel
theorem dX0_wholeSize_175 : decode cX0_wholeSize 175 = .ok (.iload 20, 2) := by decide +kernel
theorem dX0_wholeSize_177 : decode cX0_wholeSize 177 = .ok (.invokestatic 69, 3) := by decide +kernel
theorem dX0_wholeSize_180 : decode cX0_wholeSize 180 = .ok (.ifCond .eq 11, 3) := by decide +kernel
theorem dX0_wholeSize_183 : decode cX0_wholeSize 183 = .ok (.lload 13, 2) := by decide +kernel
theorem dX0_wholeSize_185 : decode cX0_wholeSize 185 = .ok (.lload 11, 2) := by decide +kernel
theorem dX0_wholeSize_187 : decode cX0_wholeSize 187 = .ok (.ladd, 1) := by decide +kernel
theorem dX0_wholeSize_188 : decode cX0_wholeSize 188 = .ok (.goto 5, 3) := by decide +kernel
theorem dX0_wholeSize_191 : decode cX0_wholeSize 191 = .ok (.lload 13, 2) := by decide +kernel
theorem dX0_wholeSize_193 : decode cX0_wholeSize 193 = .ok (.lreturn, 1) := by decide +kernel
theorem dX0_isAway_0 : decode cX0_isAway 0 = .ok (.iload_n 2, 1) := by decide +kernel
theorem dX0_isAway_1 : decode cX0_isAway 1 = .ok (.lookupswitch 51 #[(1, 27), (2, 39)], 27) := by decide +kernel
theorem dX0_isAway_28 : decode cX0_isAway 28 = .ok (.lload_n 0, 1) := by decide +kernel
theorem dX0_isAway_29 : decode cX0_isAway 29 = .ok (.lconst 0, 1) := by decide +kernel
theorem dX0_isAway_30 : decode cX0_isAway 30 = .ok (.lcmp, 1) := by decide +kernel
theorem dX0_isAway_31 : decode cX0_isAway 31 = .ok (.ifCond .ge 7, 3) := by decide +kernel
theorem dX0_isAway_34 : decode cX0_isAway 34 = .ok (.iconst 1, 1) := by decide +kernel
theorem dX0_isAway_35 : decode cX0_isAway 35 = .ok (.goto 4, 3) := by decide +kernel
theorem dX0_isAway_38 : decode cX0_isAway 38 = .ok (.iconst 0, 1) := by decide +kernel
theorem dX0_isAway_39 : decode cX0_isAway 39 = .ok (.ireturn, 1) := by decide +kernel
theorem dX0_isAway_40 : decode cX0_isAway 40 = .ok (.lload_n 0, 1) := by decide +kernel
theorem dX0_isAway_41 : decode cX0_isAway 41 = .ok (.lconst 0, 1) := by decide +kernel
theorem dX0_isAway_42 : decode cX0_isAway 42 = .ok (.lcmp, 1) := by decide +kernel
theorem dX0_isAway_43 : decode cX0_isAway 43 = .ok (.ifCond .lt 7, 3) := by decide +kernel
theorem dX0_isAway_46 : decode cX0_isAway 46 = .ok (.iconst 1, 1) := by decide +kernel
theorem dX0_isAway_47 : decode cX0_isAway 47 = .ok (.goto 4, 3) := by decide +kernel
theorem dX0_isAway_50 : decode cX0_isAway 50 = .ok (.iconst 0, 1) := by decide +kernel
theorem dX0_isAway_51 : decode cX0_isAway 51 = .ok (.ireturn, 1) := by decide +kernel
theorem dX0_isAway_52 : decode cX0_isAway 52 = .ok (.iload_n 3, 1) := by decide +kernel
theorem dX0_isAway_53 : decode cX0_isAway 53 = .ok (.ireturn, 1) := by decide +kernel
set_option maxRecDepth 20000 in
theorem ggX0_rank_X0_isReal : GoodIn wsX0_rank wsX0_isReal := goodIn_r _ [4] (by decide +kernel) (by decide +kernel)
set_option maxRecDepth 20000 in
theorem gX0_rank_X0_isReal : GoodIn wsX0_rank (va_wsS RX0 73 yX0_isReal wsX0_isReal) := goodIn_app (goodIn_of _ (by decide +kernel)) ggX0_rank_X0_isReal
set_option maxRecDepth 20000 in
theorem ggX0_rank_X0_sizeBits : GoodIn wsX0_rank wsX0_sizeBits := goodIn_r _ [7, 8, 9] (by decide +kernel) (by decide +kernel)
set_option maxRecDepth 20000 in
theorem gX0_rank_X0_sizeBits : GoodIn wsX0_rank (va_wsS RX0 47 yX0_sizeBits wsX0_sizeBits) := goodIn_app (goodIn_of _ (by decide +kernel)) ggX0_rank_X0_sizeBits
theorem dX0_rank_0 : decode cX0_rank 0 = .ok (.iload_n 0, 1) := by decide +kernel
theorem dX0_rank_1 : decode cX0_rank 1 = .ok (.invokestatic 73, 3) := by decide +kernel
theorem dX0_rank_4 : decode cX0_rank 4 = .ok (.ifCond .eq 18, 3) := by decide +kernel
theorem dX0_rank_7 : decode cX0_rank 7 = .ok (.lload_n 1, 1) := by decide +kernel
theorem dX0_rank_8 : decode cX0_rank 8 = .ok (.lconst 0, 1) := by decide +kernel
theorem dX0_rank_9 : decode cX0_rank 9 = .ok (.lcmp, 1) := by decide +kernel
theorem dX0_rank_10 : decode cX0_rank 10 = .ok (.ifCond .ge 12, 3) := by decide +kernel
theorem dX0_rank_13 : decode cX0_rank 13 = .ok (.lload_n 1, 1) := by decide +kernel
theorem dX0_rank_14 : decode cX0_rank 14 = .ok (.iload_n 0, 1) := by decide +kernel
theorem dX0_rank_15 : decode cX0_rank 15 = .ok (.invokestatic 47, 3) := by decide +kernel
theorem dX0_rank_18 : decode cX0_rank 18 = .ok (.lxor, 1) := by decide +kernel
theorem dX0_rank_19 : decode cX0_rank 19 = .ok (.goto 4, 3) := by decide +kernel
theorem dX0_rank_22 : decode cX0_rank 22 = .ok (.lload_n 1, 1) := by decide +kernel
theorem dX0_rank_23 : decode cX0_rank 23 = .ok (.lreturn, 1) := by decide +kernel
theorem dX0_sizeBits_0 : decode cX0_sizeBits 0 = .ok (.iload_n 0, 1) := by decide +kernel
theorem dX0_sizeBits_1 : decode cX0_sizeBits 1 = .ok (.iconst 2, 1) := by decide +kernel
theorem dX0_sizeBits_2 : decode cX0_sizeBits 2 = .ok (.if_icmp .ne 9, 3) := by decide +kernel
theorem dX0_sizeBits_5 : decode cX0_sizeBits 5 = .ok (.ldc2_w 13, 3) := by decide +kernel
theorem dX0_sizeBits_8 : decode cX0_sizeBits 8 = .ok (.goto 6, 3) := by decide +kernel
theorem dX0_sizeBits_11 : decode cX0_sizeBits 11 = .ok (.ldc2_w 19, 3) := by decide +kernel
theorem dX0_sizeBits_14 : decode cX0_sizeBits 14 = .ok (.lreturn, 1) := by decide +kernel
theorem dX0_placesOf_0 : decode cX0_placesOf 0 = .ok (.iload_n 0, 1) := by decide +kernel
theorem dX0_placesOf_1 : decode cX0_placesOf 1 = .ok (.iconst 2, 1) := by decide +kernel
theorem dX0_placesOf_2 : decode cX0_placesOf 2 = .ok (.if_icmp .ne 8, 3) := by decide +kernel
theorem dX0_placesOf_5 : decode cX0_placesOf 5 = .ok (.bipush 23, 2) := by decide +kernel
theorem dX0_placesOf_7 : decode cX0_placesOf 7 = .ok (.goto 5, 3) := by decide +kernel
theorem dX0_placesOf_10 : decode cX0_placesOf 10 = .ok (.bipush 52, 2) := by decide +kernel
theorem dX0_placesOf_12 : decode cX0_placesOf 12 = .ok (.ireturn, 1) := by decide +kernel
set_option maxRecDepth 20000 in
theorem ggX0_oneOf_X0_placesOf : GoodIn wsX0_oneOf wsX0_placesOf := goodIn_r _ [6] (by decide +kernel) (by decide +kernel)
set_option maxRecDepth 20000 in
theorem gX0_oneOf_X0_placesOf : GoodIn wsX0_oneOf (va_wsS RX0 66 yX0_placesOf wsX0_placesOf) := goodIn_app (goodIn_of _ (by decide +kernel)) ggX0_oneOf_X0_placesOf
theorem dX0_oneOf_0 : decode cX0_oneOf 0 = .ok (.iload_n 0, 1) := by decide +kernel
theorem dX0_oneOf_1 : decode cX0_oneOf 1 = .ok (.iconst 2, 1) := by decide +kernel
theorem dX0_oneOf_2 : decode cX0_oneOf 2 = .ok (.if_icmp .ne 9, 3) := by decide +kernel
theorem dX0_oneOf_5 : decode cX0_oneOf 5 = .ok (.ldc2_w 77, 3) := by decide +kernel
theorem dX0_oneOf_8 : decode cX0_oneOf 8 = .ok (.goto 6, 3) := by decide +kernel
theorem dX0_oneOf_11 : decode cX0_oneOf 11 = .ok (.ldc2_w 79, 3) := by decide +kernel
theorem dX0_oneOf_14 : decode cX0_oneOf 14 = .ok (.iload_n 0, 1) := by decide +kernel
theorem dX0_oneOf_15 : decode cX0_oneOf 15 = .ok (.invokestatic 66, 3) := by decide +kernel
theorem dX0_oneOf_18 : decode cX0_oneOf 18 = .ok (.lshl, 1) := by decide +kernel
theorem dX0_oneOf_19 : decode cX0_oneOf 19 = .ok (.lreturn, 1) := by decide +kernel
theorem dX1_init_0 : decode cX1_init 0 = .ok (.aload_n 0, 1) := by decide +kernel
theorem dX1_init_1 : decode cX1_init 1 = .ok (.invokespecial 3, 3) := by decide +kernel
theorem dX1_init_4 : decode cX1_init 4 = .ok (.aload_n 0, 1) := by decide +kernel
theorem dX1_init_5 : decode cX1_init 5 = .ok (.bipush 96, 2) := by decide +kernel
theorem dX1_init_7 : decode cX1_init 7 = .ok (.newarray .long, 2) := by decide +kernel
theorem dX1_init_9 : decode cX1_init 9 = .ok (.putfield 9, 3) := by decide +kernel
theorem dX1_init_12 : decode cX1_init 12 = .ok (.aload_n 0, 1) := by decide +kernel
theorem dX1_init_13 : decode cX1_init 13 = .ok (.bipush 6, 2) := by decide +kernel
theorem dX1_init_15 : decode cX1_init 15 = .ok (.newarray .int, 2) := by decide +kernel
theorem dX1_init_17 : decode cX1_init 17 = .ok (.putfield 15, 3) := by decide +kernel
theorem dX1_init_20 : decode cX1_init 20 = .ok (.return_, 1) := by decide +kernel
theorem dX1_held_0 : decode cX1_held 0 = .ok (.aload_n 0, 1) := by decide +kernel
theorem dX1_held_1 : decode cX1_held 1 = .ok (.getfield 19, 3) := by decide +kernel
theorem dX1_held_4 : decode cX1_held 4 = .ok (.ireturn, 1) := by decide +kernel
theorem dX1_keep_0 : decode cX1_keep 0 = .ok (.aload_n 0, 1) := by decide +kernel
theorem dX1_keep_1 : decode cX1_keep 1 = .ok (.getfield 19, 3) := by decide +kernel
theorem dX1_keep_4 : decode cX1_keep 4 = .ok (.bipush 6, 2) := by decide +kernel
theorem dX1_keep_6 : decode cX1_keep 6 = .ok (.if_icmp .ne 26, 3) := by decide +kernel
theorem dX1_keep_9 : decode cX1_keep 9 = .ok (.aload_n 0, 1) := by decide +kernel
theorem dX1_keep_10 : decode cX1_keep 10 = .ok (.aload_n 0, 1) := by decide +kernel
theorem dX1_keep_11 : decode cX1_keep 11 = .ok (.getfield 23, 3) := by decide +kernel
theorem dX1_keep_14 : decode cX1_keep 14 = .ok (.iconst 1, 1) := by decide +kernel
theorem dX1_keep_15 : decode cX1_keep 15 = .ok (.iadd, 1) := by decide +kernel
theorem dX1_keep_16 : decode cX1_keep 16 = .ok (.bipush 6, 2) := by decide +kernel
theorem dX1_keep_18 : decode cX1_keep 18 = .ok (.irem, 1) := by decide +kernel
theorem dX1_keep_19 : decode cX1_keep 19 = .ok (.putfield 23, 3) := by decide +kernel
theorem dX1_keep_22 : decode cX1_keep 22 = .ok (.aload_n 0, 1) := by decide +kernel
theorem dX1_keep_23 : decode cX1_keep 23 = .ok (.dup, 1) := by decide +kernel
theorem dX1_keep_24 : decode cX1_keep 24 = .ok (.getfield 19, 3) := by decide +kernel
theorem dX1_keep_27 : decode cX1_keep 27 = .ok (.iconst 1, 1) := by decide +kernel
theorem dX1_keep_28 : decode cX1_keep 28 = .ok (.isub, 1) := by decide +kernel
theorem dX1_keep_29 : decode cX1_keep 29 = .ok (.putfield 19, 3) := by decide +kernel
theorem dX1_keep_32 : decode cX1_keep 32 = .ok (.aload_n 0, 1) := by decide +kernel
theorem dX1_keep_33 : decode cX1_keep 33 = .ok (.getfield 23, 3) := by decide +kernel
theorem dX1_keep_36 : decode cX1_keep 36 = .ok (.aload_n 0, 1) := by decide +kernel
theorem dX1_keep_37 : decode cX1_keep 37 = .ok (.getfield 19, 3) := by decide +kernel
theorem dX1_keep_40 : decode cX1_keep 40 = .ok (.iadd, 1) := by decide +kernel
theorem dX1_keep_41 : decode cX1_keep 41 = .ok (.bipush 6, 2) := by decide +kernel
theorem dX1_keep_43 : decode cX1_keep 43 = .ok (.irem, 1) := by decide +kernel
theorem dX1_keep_44 : decode cX1_keep 44 = .ok (.istore_n 3, 1) := by decide +kernel
theorem dX1_keep_45 : decode cX1_keep 45 = .ok (.aload_n 0, 1) := by decide +kernel
theorem dX1_keep_46 : decode cX1_keep 46 = .ok (.getfield 15, 3) := by decide +kernel
theorem dX1_keep_49 : decode cX1_keep 49 = .ok (.iload_n 3, 1) := by decide +kernel
theorem dX1_keep_50 : decode cX1_keep 50 = .ok (.iload_n 2, 1) := by decide +kernel
theorem dX1_keep_51 : decode cX1_keep 51 = .ok (.iastore, 1) := by decide +kernel
theorem dX1_keep_52 : decode cX1_keep 52 = .ok (.aload_n 1, 1) := by decide +kernel
theorem dX1_keep_53 : decode cX1_keep 53 = .ok (.iconst 0, 1) := by decide +kernel
theorem dX1_keep_54 : decode cX1_keep 54 = .ok (.aload_n 0, 1) := by decide +kernel
theorem dX1_keep_55 : decode cX1_keep 55 = .ok (.getfield 9, 3) := by decide +kernel
theorem dX1_keep_58 : decode cX1_keep 58 = .ok (.iload_n 3, 1) := by decide +kernel
theorem dX1_keep_59 : decode cX1_keep 59 = .ok (.bipush 16, 2) := by decide +kernel
theorem dX1_keep_61 : decode cX1_keep 61 = .ok (.imul, 1) := by decide +kernel
theorem dX1_keep_62 : decode cX1_keep 62 = .ok (.iload_n 2, 1) := by decide +kernel
theorem dX1_keep_63 : decode cX1_keep 63 = .ok (.invokestatic 26, 3) := by decide +kernel
theorem dX1_keep_66 : decode cX1_keep 66 = .ok (.aload_n 0, 1) := by decide +kernel
theorem dX1_keep_67 : decode cX1_keep 67 = .ok (.dup, 1) := by decide +kernel
theorem dX1_keep_68 : decode cX1_keep 68 = .ok (.getfield 19, 3) := by decide +kernel
theorem dX1_keep_71 : decode cX1_keep 71 = .ok (.iconst 1, 1) := by decide +kernel
theorem dX1_keep_72 : decode cX1_keep 72 = .ok (.iadd, 1) := by decide +kernel
theorem dX1_keep_73 : decode cX1_keep 73 = .ok (.putfield 19, 3) := by decide +kernel
theorem dX1_keep_76 : decode cX1_keep 76 = .ok (.return_, 1) := by decide +kernel
theorem dX1_restoreLatest_0 : decode cX1_restoreLatest 0 = .ok (.aload_n 0, 1) := by decide +kernel
theorem dX1_restoreLatest_1 : decode cX1_restoreLatest 1 = .ok (.dup, 1) := by decide +kernel
theorem dX1_restoreLatest_2 : decode cX1_restoreLatest 2 = .ok (.getfield 19, 3) := by decide +kernel
theorem dX1_restoreLatest_5 : decode cX1_restoreLatest 5 = .ok (.iconst 1, 1) := by decide +kernel
theorem dX1_restoreLatest_6 : decode cX1_restoreLatest 6 = .ok (.isub, 1) := by decide +kernel
theorem dX1_restoreLatest_7 : decode cX1_restoreLatest 7 = .ok (.putfield 19, 3) := by decide +kernel
theorem dX1_restoreLatest_10 : decode cX1_restoreLatest 10 = .ok (.aload_n 0, 1) := by decide +kernel
theorem dX1_restoreLatest_11 : decode cX1_restoreLatest 11 = .ok (.getfield 23, 3) := by decide +kernel
theorem dX1_restoreLatest_14 : decode cX1_restoreLatest 14 = .ok (.aload_n 0, 1) := by decide +kernel
theorem dX1_restoreLatest_15 : decode cX1_restoreLatest 15 = .ok (.getfield 19, 3) := by decide +kernel
theorem dX1_restoreLatest_18 : decode cX1_restoreLatest 18 = .ok (.iadd, 1) := by decide +kernel
theorem dX1_restoreLatest_19 : decode cX1_restoreLatest 19 = .ok (.bipush 6, 2) := by decide +kernel
theorem dX1_restoreLatest_21 : decode cX1_restoreLatest 21 = .ok (.irem, 1) := by decide +kernel
theorem dX1_restoreLatest_22 : decode cX1_restoreLatest 22 = .ok (.istore_n 2, 1) := by decide +kernel
theorem dX1_restoreLatest_23 : decode cX1_restoreLatest 23 = .ok (.iconst 0, 1) := by decide +kernel
theorem dX1_restoreLatest_24 : decode cX1_restoreLatest 24 = .ok (.istore_n 3, 1) := by decide +kernel
theorem dX1_restoreLatest_25 : decode cX1_restoreLatest 25 = .ok (.iconst 0, 1) := by decide +kernel
theorem dX1_restoreLatest_26 : decode cX1_restoreLatest 26 = .ok (.istore 4, 2) := by decide +kernel
theorem dX1_restoreLatest_28 : decode cX1_restoreLatest 28 = .ok (.iload 4, 2) := by decide +kernel
theorem dX1_restoreLatest_30 : decode cX1_restoreLatest 30 = .ok (.aload_n 0, 1) := by decide +kernel
theorem dX1_restoreLatest_31 : decode cX1_restoreLatest 31 = .ok (.getfield 15, 3) := by decide +kernel
theorem dX1_restoreLatest_34 : decode cX1_restoreLatest 34 = .ok (.iload_n 2, 1) := by decide +kernel
theorem dX1_restoreLatest_35 : decode cX1_restoreLatest 35 = .ok (.iaload, 1) := by decide +kernel
theorem dX1_restoreLatest_36 : decode cX1_restoreLatest 36 = .ok (.if_icmp .ge 42, 3) := by decide +kernel
theorem dX1_restoreLatest_39 : decode cX1_restoreLatest 39 = .ok (.aload_n 0, 1) := by decide +kernel
theorem dX1_restoreLatest_40 : decode cX1_restoreLatest 40 = .ok (.getfield 9, 3) := by decide +kernel
theorem dX1_restoreLatest_43 : decode cX1_restoreLatest 43 = .ok (.iload_n 2, 1) := by decide +kernel
theorem dX1_restoreLatest_44 : decode cX1_restoreLatest 44 = .ok (.bipush 16, 2) := by decide +kernel
theorem dX1_restoreLatest_46 : decode cX1_restoreLatest 46 = .ok (.imul, 1) := by decide +kernel
theorem dX1_restoreLatest_47 : decode cX1_restoreLatest 47 = .ok (.iload 4, 2) := by decide +kernel
theorem dX1_restoreLatest_49 : decode cX1_restoreLatest 49 = .ok (.iadd, 1) := by decide +kernel
theorem dX1_restoreLatest_50 : decode cX1_restoreLatest 50 = .ok (.laload, 1) := by decide +kernel
theorem dX1_restoreLatest_51 : decode cX1_restoreLatest 51 = .ok (.lstore 5, 2) := by decide +kernel
theorem dX1_restoreLatest_53 : decode cX1_restoreLatest 53 = .ok (.aload_n 1, 1) := by decide +kernel
theorem dX1_restoreLatest_54 : decode cX1_restoreLatest 54 = .ok (.iload 4, 2) := by decide +kernel
theorem dX1_restoreLatest_56 : decode cX1_restoreLatest 56 = .ok (.laload, 1) := by decide +kernel
theorem dX1_restoreLatest_57 : decode cX1_restoreLatest 57 = .ok (.lload 5, 2) := by decide +kernel
theorem dX1_restoreLatest_59 : decode cX1_restoreLatest 59 = .ok (.lcmp, 1) := by decide +kernel
theorem dX1_restoreLatest_60 : decode cX1_restoreLatest 60 = .ok (.ifCond .eq 12, 3) := by decide +kernel
theorem dX1_restoreLatest_63 : decode cX1_restoreLatest 63 = .ok (.aload_n 1, 1) := by decide +kernel
theorem dX1_restoreLatest_64 : decode cX1_restoreLatest 64 = .ok (.iload 4, 2) := by decide +kernel
theorem dX1_restoreLatest_66 : decode cX1_restoreLatest 66 = .ok (.lload 5, 2) := by decide +kernel
theorem dX1_restoreLatest_68 : decode cX1_restoreLatest 68 = .ok (.lastore, 1) := by decide +kernel
theorem dX1_restoreLatest_69 : decode cX1_restoreLatest 69 = .ok (.iinc 3 1, 3) := by decide +kernel
theorem dX1_restoreLatest_72 : decode cX1_restoreLatest 72 = .ok (.iinc 4 1, 3) := by decide +kernel
theorem dX1_restoreLatest_75 : decode cX1_restoreLatest 75 = .ok (.goto (-47), 3) := by decide +kernel
theorem dX1_restoreLatest_78 : decode cX1_restoreLatest 78 = .ok (.iload_n 3, 1) := by decide +kernel
theorem dX1_restoreLatest_79 : decode cX1_restoreLatest 79 = .ok (.ireturn, 1) := by decide +kernel
set_option maxRecDepth 20000 in
theorem ggX2_init_X1_init : GoodIn wsX2_init wsX1_init := goodIn_r _ [21, 22, 2, 3, 6, 23, 4, 24, 39, 40, 41, 42] (by decide +kernel) (by decide +kernel)
set_option maxRecDepth 20000 in
theorem gX2_init_X1_init : GoodIn wsX2_init (wsX1_init) := ggX2_init_X1_init
theorem dX2_init_0 : decode cX2_init 0 = .ok (.aload_n 0, 1) := by decide +kernel
theorem dX2_init_1 : decode cX2_init 1 = .ok (.invokespecial 1, 3) := by decide +kernel
theorem dX2_init_4 : decode cX2_init 4 = .ok (.aload_n 0, 1) := by decide +kernel
theorem dX2_init_5 : decode cX2_init 5 = .ok (.bipush 16, 2) := by decide +kernel
theorem dX2_init_7 : decode cX2_init 7 = .ok (.newarray .int, 2) := by decide +kernel
theorem dX2_init_9 : decode cX2_init 9 = .ok (.putfield 9, 3) := by decide +kernel
theorem dX2_init_12 : decode cX2_init 12 = .ok (.aload_n 0, 1) := by decide +kernel
theorem dX2_init_13 : decode cX2_init 13 = .ok (.bipush 16, 2) := by decide +kernel
theorem dX2_init_15 : decode cX2_init 15 = .ok (.newarray .long, 2) := by decide +kernel
theorem dX2_init_17 : decode cX2_init 17 = .ok (.putfield 13, 3) := by decide +kernel
theorem dX2_init_20 : decode cX2_init 20 = .ok (.aload_n 0, 1) := by decide +kernel
theorem dX2_init_21 : decode cX2_init 21 = .ok (.bipush 16, 2) := by decide +kernel
theorem dX2_init_23 : decode cX2_init 23 = .ok (.newarray .long, 2) := by decide +kernel
theorem dX2_init_25 : decode cX2_init 25 = .ok (.putfield 17, 3) := by decide +kernel
theorem dX2_init_28 : decode cX2_init 28 = .ok (.aload_n 0, 1) := by decide +kernel
theorem dX2_init_29 : decode cX2_init 29 = .ok (.bipush 16, 2) := by decide +kernel
theorem dX2_init_31 : decode cX2_init 31 = .ok (.newarray .long, 2) := by decide +kernel
theorem dX2_init_33 : decode cX2_init 33 = .ok (.putfield 20, 3) := by decide +kernel
theorem dX2_init_36 : decode cX2_init 36 = .ok (.aload_n 0, 1) := by decide +kernel
theorem dX2_init_37 : decode cX2_init 37 = .ok (.bipush 24, 2) := by decide +kernel
theorem dX2_init_39 : decode cX2_init 39 = .ok (.newarray .int, 2) := by decide +kernel
theorem dX2_init_41 : decode cX2_init 41 = .ok (.putfield 23, 3) := by decide +kernel
theorem dX2_init_44 : decode cX2_init 44 = .ok (.aload_n 0, 1) := by decide +kernel
theorem dX2_init_45 : decode cX2_init 45 = .ok (.bipush 24, 2) := by decide +kernel
theorem dX2_init_47 : decode cX2_init 47 = .ok (.newarray .int, 2) := by decide +kernel
theorem dX2_init_49 : decode cX2_init 49 = .ok (.putfield 26, 3) := by decide +kernel
theorem dX2_init_52 : decode cX2_init 52 = .ok (.aload_n 0, 1) := by decide +kernel
theorem dX2_init_53 : decode cX2_init 53 = .ok (.bipush 24, 2) := by decide +kernel
theorem dX2_init_55 : decode cX2_init 55 = .ok (.newarray .int, 2) := by decide +kernel
theorem dX2_init_57 : decode cX2_init 57 = .ok (.putfield 29, 3) := by decide +kernel
theorem dX2_init_60 : decode cX2_init 60 = .ok (.aload_n 0, 1) := by decide +kernel
theorem dX2_init_61 : decode cX2_init 61 = .ok (.bipush 24, 2) := by decide +kernel
theorem dX2_init_63 : decode cX2_init 63 = .ok (.newarray .boolean, 2) := by decide +kernel
theorem dX2_init_65 : decode cX2_init 65 = .ok (.putfield 32, 3) := by decide +kernel
theorem dX2_init_68 : decode cX2_init 68 = .ok (.aload_n 0, 1) := by decide +kernel
theorem dX2_init_69 : decode cX2_init 69 = .ok (.new 36, 3) := by decide +kernel
theorem dX2_init_72 : decode cX2_init 72 = .ok (.dup, 1) := by decide +kernel
theorem dX2_init_73 : decode cX2_init 73 = .ok (.invokespecial 38, 3) := by decide +kernel
theorem dX2_init_76 : decode cX2_init 76 = .ok (.putfield 39, 3) := by decide +kernel
theorem dX2_init_79 : decode cX2_init 79 = .ok (.return_, 1) := by decide +kernel
set_option maxRecDepth 20000 in
theorem ggX2_dial_X2_faultOfDial : GoodIn wsX2_dial wsX2_faultOfDial := goodIn_r _ [11, 2, 12, 13, 14, 15, 16, 17, 18, 19, 20, 21, 22, 23, 24, 25, 26, 27, 28, 29, 30, 31, 32, 43, 44, 45, 46, 47, 48, 49, 50, 51, 52, 53, 54, 55, 56] (by decide +kernel) (by decide +kernel)
set_option maxRecDepth 20000 in
theorem gX2_dial_X2_faultOfDial : GoodIn wsX2_dial (wsV RX2 43 RX2 yX2_faultOfDial wsX2_faultOfDial) := goodIn_app (goodIn_of _ (by decide +kernel)) ggX2_dial_X2_faultOfDial
set_option maxRecDepth 20000 in
theorem ggX2_dial_X0_fitted : GoodIn wsX2_dial wsX0_fitted := goodIn_r _ [35, 36, 37, 14, 38, 39, 22, 23, 24, 25, 26, 27, 28, 29, 30, 31, 32, 17, 19, 40, 41, 42] (by decide +kernel) (by decide +kernel)
set_option maxRecDepth 20000 in
theorem gX2_dial_X0_fitted : GoodIn wsX2_dial (va_wsS RX2 54 yX0_fitted wsX0_fitted) := goodIn_app (goodIn_of _ (by decide +kernel)) ggX2_dial_X0_fitted
theorem dX2_dial_0 : decode cX2_dial 0 = .ok (.aload_n 0, 1) := by decide +kernel
theorem dX2_dial_1 : decode cX2_dial 1 = .ok (.aload_n 0, 1) := by decide +kernel
theorem dX2_dial_2 : decode cX2_dial 2 = .ok (.iload_n 1, 1) := by decide +kernel
theorem dX2_dial_3 : decode cX2_dial 3 = .ok (.lload_n 2, 1) := by decide +kernel
theorem dX2_dial_4 : decode cX2_dial 4 = .ok (.lload 4, 2) := by decide +kernel
theorem dX2_dial_6 : decode cX2_dial 6 = .ok (.invokevirtual 43, 3) := by decide +kernel
theorem dX2_dial_9 : decode cX2_dial 9 = .ok (.putfield 47, 3) := by decide +kernel
theorem dX2_dial_12 : decode cX2_dial 12 = .ok (.aload_n 0, 1) := by decide +kernel
theorem dX2_dial_13 : decode cX2_dial 13 = .ok (.getfield 47, 3) := by decide +kernel
theorem dX2_dial_16 : decode cX2_dial 16 = .ok (.ifCond .eq 5, 3) := by decide +kernel
theorem dX2_dial_19 : decode cX2_dial 19 = .ok (.iconst (-1), 1) := by decide +kernel
theorem dX2_dial_20 : decode cX2_dial 20 = .ok (.ireturn, 1) := by decide +kernel
theorem dX2_dial_21 : decode cX2_dial 21 = .ok (.aload_n 0, 1) := by decide +kernel
theorem dX2_dial_22 : decode cX2_dial 22 = .ok (.getfield 51, 3) := by decide +kernel
theorem dX2_dial_25 : decode cX2_dial 25 = .ok (.istore 6, 2) := by decide +kernel
theorem dX2_dial_27 : decode cX2_dial 27 = .ok (.aload_n 0, 1) := by decide +kernel
theorem dX2_dial_28 : decode cX2_dial 28 = .ok (.getfield 9, 3) := by decide +kernel
theorem dX2_dial_31 : decode cX2_dial 31 = .ok (.iload 6, 2) := by decide +kernel
theorem dX2_dial_33 : decode cX2_dial 33 = .ok (.iload_n 1, 1) := by decide +kernel
theorem dX2_dial_34 : decode cX2_dial 34 = .ok (.iastore, 1) := by decide +kernel
theorem dX2_dial_35 : decode cX2_dial 35 = .ok (.aload_n 0, 1) := by decide +kernel
theorem dX2_dial_36 : decode cX2_dial 36 = .ok (.getfield 13, 3) := by decide +kernel
theorem dX2_dial_39 : decode cX2_dial 39 = .ok (.iload 6, 2) := by decide +kernel
theorem dX2_dial_41 : decode cX2_dial 41 = .ok (.lload_n 2, 1) := by decide +kernel
theorem dX2_dial_42 : decode cX2_dial 42 = .ok (.lastore, 1) := by decide +kernel
theorem dX2_dial_43 : decode cX2_dial 43 = .ok (.aload_n 0, 1) := by decide +kernel
theorem dX2_dial_44 : decode cX2_dial 44 = .ok (.getfield 17, 3) := by decide +kernel
theorem dX2_dial_47 : decode cX2_dial 47 = .ok (.iload 6, 2) := by decide +kernel
theorem dX2_dial_49 : decode cX2_dial 49 = .ok (.lload 4, 2) := by decide +kernel
theorem dX2_dial_51 : decode cX2_dial 51 = .ok (.lastore, 1) := by decide +kernel
theorem dX2_dial_52 : decode cX2_dial 52 = .ok (.aload_n 0, 1) := by decide +kernel
theorem dX2_dial_53 : decode cX2_dial 53 = .ok (.getfield 20, 3) := by decide +kernel
theorem dX2_dial_56 : decode cX2_dial 56 = .ok (.iload 6, 2) := by decide +kernel
theorem dX2_dial_58 : decode cX2_dial 58 = .ok (.iload_n 1, 1) := by decide +kernel
theorem dX2_dial_59 : decode cX2_dial 59 = .ok (.lload_n 2, 1) := by decide +kernel
theorem dX2_dial_60 : decode cX2_dial 60 = .ok (.lload 4, 2) := by decide +kernel
theorem dX2_dial_62 : decode cX2_dial 62 = .ok (.lconst 0, 1) := by decide +kernel
theorem dX2_dial_63 : decode cX2_dial 63 = .ok (.invokestatic 54, 3) := by decide +kernel
theorem dX2_dial_66 : decode cX2_dial 66 = .ok (.lastore, 1) := by decide +kernel
theorem dX2_dial_67 : decode cX2_dial 67 = .ok (.aload_n 0, 1) := by decide +kernel
theorem dX2_dial_68 : decode cX2_dial 68 = .ok (.dup, 1) := by decide +kernel
theorem dX2_dial_69 : decode cX2_dial 69 = .ok (.getfield 51, 3) := by decide +kernel
theorem dX2_dial_72 : decode cX2_dial 72 = .ok (.iconst 1, 1) := by decide +kernel
theorem dX2_dial_73 : decode cX2_dial 73 = .ok (.iadd, 1) := by decide +kernel
theorem dX2_dial_74 : decode cX2_dial 74 = .ok (.putfield 51, 3) := by decide +kernel
theorem dX2_dial_77 : decode cX2_dial 77 = .ok (.iload 6, 2) := by decide +kernel
theorem dX2_dial_79 : decode cX2_dial 79 = .ok (.ireturn, 1) := by decide +kernel
set_option maxRecDepth 20000 in
theorem ggX2_rod_X2_faultOfRod : GoodIn wsX2_rod wsX2_faultOfRod := goodIn_r _ [10, 2, 11, 12, 9, 13, 14, 15, 16, 17, 18, 19, 20, 21, 22, 23, 24, 25, 26, 27, 28, 29, 30, 31, 32, 33, 34, 35, 36, 37, 38, 39, 40, 41] (by decide +kernel) (by decide +kernel)
set_option maxRecDepth 20000 in
theorem gX2_rod_X2_faultOfRod : GoodIn wsX2_rod (wsV RX2 60 RX2 yX2_faultOfRod wsX2_faultOfRod) := goodIn_app (goodIn_of _ (by decide +kernel)) ggX2_rod_X2_faultOfRod
theorem dX2_rod_0 : decode cX2_rod 0 = .ok (.aload_n 0, 1) := by decide +kernel
theorem dX2_rod_1 : decode cX2_rod 1 = .ok (.aload_n 0, 1) := by decide +kernel
theorem dX2_rod_2 : decode cX2_rod 2 = .ok (.iload_n 1, 1) := by decide +kernel
theorem dX2_rod_3 : decode cX2_rod 3 = .ok (.iload_n 2, 1) := by decide +kernel
theorem dX2_rod_4 : decode cX2_rod 4 = .ok (.iload_n 3, 1) := by decide +kernel
theorem dX2_rod_5 : decode cX2_rod 5 = .ok (.invokevirtual 60, 3) := by decide +kernel
theorem dX2_rod_8 : decode cX2_rod 8 = .ok (.putfield 47, 3) := by decide +kernel
theorem dX2_rod_11 : decode cX2_rod 11 = .ok (.aload_n 0, 1) := by decide +kernel
theorem dX2_rod_12 : decode cX2_rod 12 = .ok (.getfield 47, 3) := by decide +kernel
theorem dX2_rod_15 : decode cX2_rod 15 = .ok (.ifCond .eq 5, 3) := by decide +kernel
theorem dX2_rod_18 : decode cX2_rod 18 = .ok (.iconst (-1), 1) := by decide +kernel
theorem dX2_rod_19 : decode cX2_rod 19 = .ok (.ireturn, 1) := by decide +kernel
theorem dX2_rod_20 : decode cX2_rod 20 = .ok (.aload_n 0, 1) := by decide +kernel
theorem dX2_rod_21 : decode cX2_rod 21 = .ok (.getfield 64, 3) := by decide +kernel
theorem dX2_rod_24 : decode cX2_rod 24 = .ok (.istore 4, 2) := by decide +kernel
theorem dX2_rod_26 : decode cX2_rod 26 = .ok (.aload_n 0, 1) := by decide +kernel
theorem dX2_rod_27 : decode cX2_rod 27 = .ok (.getfield 23, 3) := by decide +kernel
theorem dX2_rod_30 : decode cX2_rod 30 = .ok (.iload 4, 2) := by decide +kernel
theorem dX2_rod_32 : decode cX2_rod 32 = .ok (.iload_n 1, 1) := by decide +kernel
theorem dX2_rod_33 : decode cX2_rod 33 = .ok (.iastore, 1) := by decide +kernel
theorem dX2_rod_34 : decode cX2_rod 34 = .ok (.aload_n 0, 1) := by decide +kernel
theorem dX2_rod_35 : decode cX2_rod 35 = .ok (.getfield 26, 3) := by decide +kernel
theorem dX2_rod_38 : decode cX2_rod 38 = .ok (.iload 4, 2) := by decide +kernel
theorem dX2_rod_40 : decode cX2_rod 40 = .ok (.iload_n 2, 1) := by decide +kernel
theorem dX2_rod_41 : decode cX2_rod 41 = .ok (.iastore, 1) := by decide +kernel
theorem dX2_rod_42 : decode cX2_rod 42 = .ok (.aload_n 0, 1) := by decide +kernel
theorem dX2_rod_43 : decode cX2_rod 43 = .ok (.getfield 29, 3) := by decide +kernel
end
section
theorem dX2_rod_46 : decode cX2_rod 46 = .ok (.iload 4, 2) := by decide +kernel
theorem dX2_rod_48 : decode cX2_rod 48 = .ok (.iload_n 3, 1) := by decide +kernel
theorem dX2_rod_49 : decode cX2_rod 49 = .ok (.iastore, 1) := by decide +kernel
theorem dX2_rod_50 : decode cX2_rod 50 = .ok (.aload_n 0, 1) := by decide +kernel
theorem dX2_rod_51 : decode cX2_rod 51 = .ok (.dup, 1) := by decide +kernel
theorem dX2_rod_52 : decode cX2_rod 52 = .ok (.getfield 64, 3) := by decide +kernel
theorem dX2_rod_55 : decode cX2_rod 55 = .ok (.iconst 1, 1) := by decide +kernel
theorem dX2_rod_56 : decode cX2_rod 56 = .ok (.iadd, 1) := by decide +kernel
theorem dX2_rod_57 : decode cX2_rod 57 = .ok (.putfield 64, 3) := by decide +kernel
theorem dX2_rod_60 : decode cX2_rod 60 = .ok (.iload 4, 2) := by decide +kernel
theorem dX2_rod_62 : decode cX2_rod 62 = .ok (.ireturn, 1) := by decide +kernel
set_option maxRecDepth 20000 in
theorem ggX2_set_X2_faultOfSet : GoodIn wsX2_set wsX2_faultOfSet := goodIn_r _ [6, 7, 8, 9, 10, 5, 11, 12, 13, 14, 15, 16, 17, 18, 19, 20, 21, 99, 100, 101, 102, 103, 104, 105, 106, 107, 108, 109, 110, 111, 112] (by decide +kernel) (by decide +kernel)
set_option maxRecDepth 20000 in
theorem gX2_set_X2_faultOfSet : GoodIn wsX2_set (wsV RX2 67 RX2 yX2_faultOfSet wsX2_faultOfSet) := goodIn_app (goodIn_of _ (by decide +kernel)) ggX2_set_X2_faultOfSet
set_option maxRecDepth 20000 in
theorem ggX2_set_X2_movesWhenGiven : GoodIn wsX2_set wsX2_movesWhenGiven := goodIn_r _ [25, 26, 27, 28, 29, 30, 31, 5, 32, 7, 33, 34, 35, 36, 37, 38, 39, 40, 15, 41, 42, 43, 44, 45, 46, 47, 48, 49, 50, 51, 52, 53, 54, 55, 56, 18, 20, 57, 58, 59, 60, 61, 62, 63, 64, 12, 65, 66, 67, 68, 69, 70, 71, 72, 73, 74, 75, 76, 77, 78, 79, 80, 81, 82, 83, 84, 85, 86, 87, 88, 89, 90, 91, 92, 93, 94, 95, 96, 97, 98, 99, 100, 101, 102, 103, 104, 105, 106, 107, 108, 109, 110, 111, 112, 113, 114, 115, 116] (by decide +kernel) (by decide +kernel)
set_option maxRecDepth 20000 in
theorem gX2_set_X2_movesWhenGiven : GoodIn wsX2_set (wsV RX2 71 RX2 yX2_movesWhenGiven wsX2_movesWhenGiven) := goodIn_app (goodIn_of _ (by decide +kernel)) ggX2_set_X2_movesWhenGiven
theorem dX2_set_0 : decode cX2_set 0 = .ok (.aload_n 0, 1) := by decide +kernel
theorem dX2_set_1 : decode cX2_set 1 = .ok (.aload_n 0, 1) := by decide +kernel
theorem dX2_set_2 : decode cX2_set 2 = .ok (.iload_n 1, 1) := by decide +kernel
theorem dX2_set_3 : decode cX2_set 3 = .ok (.lload_n 2, 1) := by decide +kernel
theorem dX2_set_4 : decode cX2_set 4 = .ok (.invokevirtual 67, 3) := by decide +kernel
theorem dX2_set_7 : decode cX2_set 7 = .ok (.putfield 47, 3) := by decide +kernel
theorem dX2_set_10 : decode cX2_set 10 = .ok (.aload_n 0, 1) := by decide +kernel
theorem dX2_set_11 : decode cX2_set 11 = .ok (.getfield 47, 3) := by decide +kernel
theorem dX2_set_14 : decode cX2_set 14 = .ok (.ifCond .eq 5, 3) := by decide +kernel
theorem dX2_set_17 : decode cX2_set 17 = .ok (.iconst (-1), 1) := by decide +kernel
theorem dX2_set_18 : decode cX2_set 18 = .ok (.ireturn, 1) := by decide +kernel
theorem dX2_set_19 : decode cX2_set 19 = .ok (.aload_n 0, 1) := by decide +kernel
theorem dX2_set_20 : decode cX2_set 20 = .ok (.iload_n 1, 1) := by decide +kernel
theorem dX2_set_21 : decode cX2_set 21 = .ok (.lload_n 2, 1) := by decide +kernel
theorem dX2_set_22 : decode cX2_set 22 = .ok (.invokevirtual 71, 3) := by decide +kernel
theorem dX2_set_25 : decode cX2_set 25 = .ok (.ireturn, 1) := by decide +kernel
set_option maxRecDepth 20000 in
theorem ggX2_turn_X2_faultOfTurn : GoodIn wsX2_turn wsX2_faultOfTurn := goodIn_r _ [8, 2, 9, 10, 11, 7, 12, 13, 14, 15, 16, 17, 113, 114, 115, 116, 117, 118, 119, 120, 121, 122, 123, 124, 125, 126] (by decide +kernel) (by decide +kernel)
set_option maxRecDepth 20000 in
theorem gX2_turn_X2_faultOfTurn : GoodIn wsX2_turn (wsV RX2 74 RX2 yX2_faultOfTurn wsX2_faultOfTurn) := goodIn_app (goodIn_of _ (by decide +kernel)) ggX2_turn_X2_faultOfTurn
set_option maxRecDepth 20000 in
theorem ggX2_turn_X0_turned : GoodIn wsX2_turn wsX0_turned := goodIn_r _ [20, 21, 22, 16, 23, 24, 25, 26, 27, 28, 29, 30, 31, 32, 33, 34, 35, 36, 37, 38, 39, 40, 41, 42, 43, 44, 45, 46, 47, 48, 49, 50, 51, 52, 53] (by decide +kernel) (by decide +kernel)
set_option maxRecDepth 20000 in
theorem gX2_turn_X0_turned : GoodIn wsX2_turn (va_wsS RX2 78 yX0_turned wsX0_turned) := goodIn_app (goodIn_of _ (by decide +kernel)) ggX2_turn_X0_turned
set_option maxRecDepth 20000 in
theorem ggX2_turn_X2_movesWhenGiven : GoodIn wsX2_turn wsX2_movesWhenGiven := goodIn_r _ [57, 58, 59, 60, 61, 62, 63, 7, 64, 2, 65, 66, 3, 67, 68, 69, 70, 71, 16, 72, 73, 74, 75, 76, 77, 78, 79, 80, 81, 82, 15, 17, 31, 32, 33, 34, 35, 83, 84, 85, 86, 87, 88, 89, 90, 13, 91, 92, 93, 94, 95, 96, 97, 98, 99, 100, 101, 102, 103, 104, 105, 106, 107, 108, 109, 110, 111, 45, 46, 47, 112, 22, 23, 24, 25, 26, 27, 28, 29, 30, 113, 114, 115, 116, 117, 118, 119, 120, 121, 122, 123, 124, 125, 126, 127, 128, 129, 130] (by decide +kernel) (by decide +kernel)
set_option maxRecDepth 20000 in
theorem gX2_turn_X2_movesWhenGiven : GoodIn wsX2_turn (wsV RX2 71 RX2 yX2_movesWhenGiven wsX2_movesWhenGiven) := goodIn_app (goodIn_of _ (by decide +kernel)) ggX2_turn_X2_movesWhenGiven
theorem dX2_turn_0 : decode cX2_turn 0 = .ok (.aload_n 0, 1) := by decide +kernel
theorem dX2_turn_1 : decode cX2_turn 1 = .ok (.aload_n 0, 1) := by decide +kernel
theorem dX2_turn_2 : decode cX2_turn 2 = .ok (.iload_n 1, 1) := by decide +kernel
theorem dX2_turn_3 : decode cX2_turn 3 = .ok (.iload_n 2, 1) := by decide +kernel
theorem dX2_turn_4 : decode cX2_turn 4 = .ok (.invokevirtual 74, 3) := by decide +kernel
theorem dX2_turn_7 : decode cX2_turn 7 = .ok (.putfield 47, 3) := by decide +kernel
theorem dX2_turn_10 : decode cX2_turn 10 = .ok (.aload_n 0, 1) := by decide +kernel
theorem dX2_turn_11 : decode cX2_turn 11 = .ok (.getfield 47, 3) := by decide +kernel
theorem dX2_turn_14 : decode cX2_turn 14 = .ok (.ifCond .eq 5, 3) := by decide +kernel
theorem dX2_turn_17 : decode cX2_turn 17 = .ok (.iconst (-1), 1) := by decide +kernel
theorem dX2_turn_18 : decode cX2_turn 18 = .ok (.ireturn, 1) := by decide +kernel
theorem dX2_turn_19 : decode cX2_turn 19 = .ok (.aload_n 0, 1) := by decide +kernel
theorem dX2_turn_20 : decode cX2_turn 20 = .ok (.iload_n 1, 1) := by decide +kernel
theorem dX2_turn_21 : decode cX2_turn 21 = .ok (.aload_n 0, 1) := by decide +kernel
theorem dX2_turn_22 : decode cX2_turn 22 = .ok (.getfield 9, 3) := by decide +kernel
theorem dX2_turn_25 : decode cX2_turn 25 = .ok (.iload_n 1, 1) := by decide +kernel
theorem dX2_turn_26 : decode cX2_turn 26 = .ok (.iaload, 1) := by decide +kernel
theorem dX2_turn_27 : decode cX2_turn 27 = .ok (.aload_n 0, 1) := by decide +kernel
theorem dX2_turn_28 : decode cX2_turn 28 = .ok (.getfield 20, 3) := by decide +kernel
theorem dX2_turn_31 : decode cX2_turn 31 = .ok (.iload_n 1, 1) := by decide +kernel
theorem dX2_turn_32 : decode cX2_turn 32 = .ok (.laload, 1) := by decide +kernel
theorem dX2_turn_33 : decode cX2_turn 33 = .ok (.iload_n 2, 1) := by decide +kernel
theorem dX2_turn_34 : decode cX2_turn 34 = .ok (.invokestatic 78, 3) := by decide +kernel
theorem dX2_turn_37 : decode cX2_turn 37 = .ok (.invokevirtual 71, 3) := by decide +kernel
theorem dX2_turn_40 : decode cX2_turn 40 = .ok (.ireturn, 1) := by decide +kernel
set_option maxRecDepth 20000 in
theorem ggX2_take_X2_faultOfTake : GoodIn wsX2_take wsX2_faultOfTake := goodIn_r _ [6, 7, 8, 9, 5, 10, 11, 12, 13, 14, 15, 16, 17, 18, 19, 20, 21, 22, 23, 101, 102, 103, 104, 105, 106, 107, 108, 109, 110, 111, 112, 113, 114] (by decide +kernel) (by decide +kernel)
set_option maxRecDepth 20000 in
theorem gX2_take_X2_faultOfTake : GoodIn wsX2_take (wsV RX2 82 RX2 yX2_faultOfTake wsX2_faultOfTake) := goodIn_app (goodIn_of _ (by decide +kernel)) ggX2_take_X2_faultOfTake
set_option maxRecDepth 20000 in
theorem ggX2_take_X2_gift : GoodIn wsX2_take wsX2_gift := goodIn_r _ [27, 19, 28, 29, 30, 22, 31, 32, 33, 34, 35, 36, 37, 38, 21, 23, 39, 40, 41, 42, 43, 44, 45, 46, 47, 48, 49, 50, 51, 52, 53, 54, 55, 56, 57, 58, 59, 60, 101, 102, 103, 104, 105, 106, 107, 108, 109, 110, 111, 112, 113, 114] (by decide +kernel) (by decide +kernel)
set_option maxRecDepth 20000 in
theorem gX2_take_X2_gift : GoodIn wsX2_take (wsV RX2 85 RX2 yX2_gift wsX2_gift) := goodIn_app (goodIn_of _ (by decide +kernel)) ggX2_take_X2_gift
set_option maxRecDepth 20000 in
theorem ggX2_take_X2_movesWhenGiven : GoodIn wsX2_take wsX2_movesWhenGiven := goodIn_r _ [64, 65, 66, 67, 68, 69, 70, 5, 71, 19, 72, 73, 28, 74, 75, 76, 77, 78, 22, 79, 80, 45, 46, 32, 33, 34, 35, 36, 37, 38, 21, 23, 39, 40, 41, 42, 43, 81, 30, 31, 82, 83, 84, 85, 86, 11, 87, 88, 89, 90, 91, 92, 93, 94, 95, 96, 97, 98, 99, 100, 24, 25, 26, 27, 29, 44, 47, 48, 49, 50, 51, 52, 53, 54, 55, 56, 57, 58, 59, 60, 101, 102, 103, 104, 105, 106, 107, 108, 109, 110, 111, 112, 113, 114, 115, 116, 117, 118] (by decide +kernel) (by decide +kernel)
set_option maxRecDepth 20000 in
theorem gX2_take_X2_movesWhenGiven : GoodIn wsX2_take (wsV RX2 71 RX2 yX2_movesWhenGiven wsX2_movesWhenGiven) := goodIn_app (goodIn_of _ (by decide +kernel)) ggX2_take_X2_movesWhenGiven
theorem dX2_take_0 : decode cX2_take 0 = .ok (.aload_n 0, 1) := by decide +kernel
theorem dX2_take_1 : decode cX2_take 1 = .ok (.aload_n 0, 1) := by decide +kernel
theorem dX2_take_2 : decode cX2_take 2 = .ok (.iload_n 1, 1) := by decide +kernel
theorem dX2_take_3 : decode cX2_take 3 = .ok (.iload_n 2, 1) := by decide +kernel
theorem dX2_take_4 : decode cX2_take 4 = .ok (.iload_n 3, 1) := by decide +kernel
theorem dX2_take_5 : decode cX2_take 5 = .ok (.invokevirtual 82, 3) := by decide +kernel
theorem dX2_take_8 : decode cX2_take 8 = .ok (.putfield 47, 3) := by decide +kernel
theorem dX2_take_11 : decode cX2_take 11 = .ok (.aload_n 0, 1) := by decide +kernel
theorem dX2_take_12 : decode cX2_take 12 = .ok (.getfield 47, 3) := by decide +kernel
theorem dX2_take_15 : decode cX2_take 15 = .ok (.ifCond .eq 5, 3) := by decide +kernel
theorem dX2_take_18 : decode cX2_take 18 = .ok (.iconst (-1), 1) := by decide +kernel
theorem dX2_take_19 : decode cX2_take 19 = .ok (.ireturn, 1) := by decide +kernel
theorem dX2_take_20 : decode cX2_take 20 = .ok (.aload_n 0, 1) := by decide +kernel
theorem dX2_take_21 : decode cX2_take 21 = .ok (.iload_n 1, 1) := by decide +kernel
theorem dX2_take_22 : decode cX2_take 22 = .ok (.aload_n 0, 1) := by decide +kernel
theorem dX2_take_23 : decode cX2_take 23 = .ok (.iload_n 3, 1) := by decide +kernel
theorem dX2_take_24 : decode cX2_take 24 = .ok (.iload_n 2, 1) := by decide +kernel
theorem dX2_take_25 : decode cX2_take 25 = .ok (.iload_n 1, 1) := by decide +kernel
theorem dX2_take_26 : decode cX2_take 26 = .ok (.invokevirtual 85, 3) := by decide +kernel
theorem dX2_take_29 : decode cX2_take 29 = .ok (.invokevirtual 71, 3) := by decide +kernel
theorem dX2_take_32 : decode cX2_take 32 = .ok (.ireturn, 1) := by decide +kernel
set_option maxRecDepth 20000 in
theorem ggX2_back_X1_held : GoodIn wsX2_back wsX1_held := goodIn_r _ [8, 9, 31, 32, 33, 34] (by decide +kernel) (by decide +kernel)
set_option maxRecDepth 20000 in
theorem gX2_back_X1_held : GoodIn wsX2_back (wsV RX2 89 RX1 yX1_held wsX1_held) := goodIn_app (goodIn_of _ (by decide +kernel)) ggX2_back_X1_held
set_option maxRecDepth 20000 in
theorem ggX2_back_X1_restoreLatest : GoodIn wsX2_back wsX1_restoreLatest := goodIn_r _ [13, 9, 14, 15, 16, 31, 32, 33, 34] (by decide +kernel) (by decide +kernel)
set_option maxRecDepth 20000 in
theorem gX2_back_X1_restoreLatest : GoodIn wsX2_back (wsV RX2 93 RX1 yX1_restoreLatest wsX1_restoreLatest) := goodIn_app (goodIn_of _ (by decide +kernel)) ggX2_back_X1_restoreLatest
theorem dX2_back_0 : decode cX2_back 0 = .ok (.aload_n 0, 1) := by decide +kernel
theorem dX2_back_1 : decode cX2_back 1 = .ok (.aload_n 0, 1) := by decide +kernel
theorem dX2_back_2 : decode cX2_back 2 = .ok (.getfield 39, 3) := by decide +kernel
theorem dX2_back_5 : decode cX2_back 5 = .ok (.invokevirtual 89, 3) := by decide +kernel
theorem dX2_back_8 : decode cX2_back 8 = .ok (.ifCond .ne 8, 3) := by decide +kernel
theorem dX2_back_11 : decode cX2_back 11 = .ok (.bipush 7, 2) := by decide +kernel
theorem dX2_back_13 : decode cX2_back 13 = .ok (.goto 4, 3) := by decide +kernel
theorem dX2_back_16 : decode cX2_back 16 = .ok (.iconst 0, 1) := by decide +kernel
theorem dX2_back_17 : decode cX2_back 17 = .ok (.putfield 47, 3) := by decide +kernel
theorem dX2_back_20 : decode cX2_back 20 = .ok (.aload_n 0, 1) := by decide +kernel
theorem dX2_back_21 : decode cX2_back 21 = .ok (.getfield 47, 3) := by decide +kernel
theorem dX2_back_24 : decode cX2_back 24 = .ok (.ifCond .eq 5, 3) := by decide +kernel
theorem dX2_back_27 : decode cX2_back 27 = .ok (.iconst (-1), 1) := by decide +kernel
theorem dX2_back_28 : decode cX2_back 28 = .ok (.ireturn, 1) := by decide +kernel
theorem dX2_back_29 : decode cX2_back 29 = .ok (.aload_n 0, 1) := by decide +kernel
theorem dX2_back_30 : decode cX2_back 30 = .ok (.getfield 39, 3) := by decide +kernel
theorem dX2_back_33 : decode cX2_back 33 = .ok (.aload_n 0, 1) := by decide +kernel
theorem dX2_back_34 : decode cX2_back 34 = .ok (.getfield 20, 3) := by decide +kernel
theorem dX2_back_37 : decode cX2_back 37 = .ok (.invokevirtual 93, 3) := by decide +kernel
theorem dX2_back_40 : decode cX2_back 40 = .ok (.ireturn, 1) := by decide +kernel
set_option maxRecDepth 20000 in
theorem ggX2_order_X2_faultOfOrder : GoodIn wsX2_order wsX2_faultOfOrder := goodIn_r _ [8, 2, 9, 10, 11, 7, 12, 13, 29, 30, 31, 32, 33, 34, 35, 36, 37, 38, 39, 40, 41, 42] (by decide +kernel) (by decide +kernel)
set_option maxRecDepth 20000 in
theorem gX2_order_X2_faultOfOrder : GoodIn wsX2_order (wsV RX2 97 RX2 yX2_faultOfOrder wsX2_faultOfOrder) := goodIn_app (goodIn_of _ (by decide +kernel)) ggX2_order_X2_faultOfOrder
set_option maxRecDepth 20000 in
theorem ggX2_order_X0_compared : GoodIn wsX2_order wsX0_compared := goodIn_r _ [17, 18, 19, 16, 20, 21, 22, 23, 24, 25, 26, 27, 28] (by decide +kernel) (by decide +kernel)
set_option maxRecDepth 20000 in
theorem gX2_order_X0_compared : GoodIn wsX2_order (va_wsS RX2 100 yX0_compared wsX0_compared) := goodIn_app (goodIn_of _ (by decide +kernel)) ggX2_order_X0_compared
theorem dX2_order_0 : decode cX2_order 0 = .ok (.aload_n 0, 1) := by decide +kernel
theorem dX2_order_1 : decode cX2_order 1 = .ok (.aload_n 0, 1) := by decide +kernel
theorem dX2_order_2 : decode cX2_order 2 = .ok (.iload_n 1, 1) := by decide +kernel
theorem dX2_order_3 : decode cX2_order 3 = .ok (.iload_n 2, 1) := by decide +kernel
theorem dX2_order_4 : decode cX2_order 4 = .ok (.invokevirtual 97, 3) := by decide +kernel
theorem dX2_order_7 : decode cX2_order 7 = .ok (.putfield 47, 3) := by decide +kernel
theorem dX2_order_10 : decode cX2_order 10 = .ok (.aload_n 0, 1) := by decide +kernel
theorem dX2_order_11 : decode cX2_order 11 = .ok (.getfield 47, 3) := by decide +kernel
theorem dX2_order_14 : decode cX2_order 14 = .ok (.ifCond .eq 6, 3) := by decide +kernel
theorem dX2_order_17 : decode cX2_order 17 = .ok (.bipush (-2), 2) := by decide +kernel
theorem dX2_order_19 : decode cX2_order 19 = .ok (.ireturn, 1) := by decide +kernel
theorem dX2_order_20 : decode cX2_order 20 = .ok (.aload_n 0, 1) := by decide +kernel
theorem dX2_order_21 : decode cX2_order 21 = .ok (.getfield 9, 3) := by decide +kernel
theorem dX2_order_24 : decode cX2_order 24 = .ok (.iload_n 1, 1) := by decide +kernel
theorem dX2_order_25 : decode cX2_order 25 = .ok (.iaload, 1) := by decide +kernel
theorem dX2_order_26 : decode cX2_order 26 = .ok (.aload_n 0, 1) := by decide +kernel
theorem dX2_order_27 : decode cX2_order 27 = .ok (.getfield 20, 3) := by decide +kernel
theorem dX2_order_30 : decode cX2_order 30 = .ok (.iload_n 1, 1) := by decide +kernel
theorem dX2_order_31 : decode cX2_order 31 = .ok (.laload, 1) := by decide +kernel
theorem dX2_order_32 : decode cX2_order 32 = .ok (.aload_n 0, 1) := by decide +kernel
theorem dX2_order_33 : decode cX2_order 33 = .ok (.getfield 20, 3) := by decide +kernel
theorem dX2_order_36 : decode cX2_order 36 = .ok (.iload_n 2, 1) := by decide +kernel
theorem dX2_order_37 : decode cX2_order 37 = .ok (.laload, 1) := by decide +kernel
theorem dX2_order_38 : decode cX2_order 38 = .ok (.invokestatic 100, 3) := by decide +kernel
theorem dX2_order_41 : decode cX2_order 41 = .ok (.ireturn, 1) := by decide +kernel
set_option maxRecDepth 20000 in
theorem ggX2_look_X2_isDial : GoodIn wsX2_look wsX2_isDial := goodIn_r _ [9, 10, 11, 12, 13, 14, 15, 16, 17, 18, 19, 20, 21, 22, 23, 24] (by decide +kernel) (by decide +kernel)
set_option maxRecDepth 20000 in
theorem gX2_look_X2_isDial : GoodIn wsX2_look (wsV RX2 103 RX2 yX2_isDial wsX2_isDial) := goodIn_app (goodIn_of _ (by decide +kernel)) ggX2_look_X2_isDial
theorem dX2_look_0 : decode cX2_look 0 = .ok (.aload_n 0, 1) := by decide +kernel
theorem dX2_look_1 : decode cX2_look 1 = .ok (.iload_n 1, 1) := by decide +kernel
theorem dX2_look_2 : decode cX2_look 2 = .ok (.invokevirtual 103, 3) := by decide +kernel
theorem dX2_look_5 : decode cX2_look 5 = .ok (.ifCond .ne 5, 3) := by decide +kernel
theorem dX2_look_8 : decode cX2_look 8 = .ok (.lconst 0, 1) := by decide +kernel
theorem dX2_look_9 : decode cX2_look 9 = .ok (.lreturn, 1) := by decide +kernel
theorem dX2_look_10 : decode cX2_look 10 = .ok (.iload_n 2, 1) := by decide +kernel
theorem dX2_look_11 : decode cX2_look 11 = .ok (.tableswitch 58 0 3 #[29, 36, 43, 50], 29) := by decide +kernel
theorem dX2_look_40 : decode cX2_look 40 = .ok (.aload_n 0, 1) := by decide +kernel
theorem dX2_look_41 : decode cX2_look 41 = .ok (.getfield 20, 3) := by decide +kernel
theorem dX2_look_44 : decode cX2_look 44 = .ok (.iload_n 1, 1) := by decide +kernel
theorem dX2_look_45 : decode cX2_look 45 = .ok (.laload, 1) := by decide +kernel
theorem dX2_look_46 : decode cX2_look 46 = .ok (.lreturn, 1) := by decide +kernel
theorem dX2_look_47 : decode cX2_look 47 = .ok (.aload_n 0, 1) := by decide +kernel
theorem dX2_look_48 : decode cX2_look 48 = .ok (.getfield 13, 3) := by decide +kernel
theorem dX2_look_51 : decode cX2_look 51 = .ok (.iload_n 1, 1) := by decide +kernel
theorem dX2_look_52 : decode cX2_look 52 = .ok (.laload, 1) := by decide +kernel
theorem dX2_look_53 : decode cX2_look 53 = .ok (.lreturn, 1) := by decide +kernel
theorem dX2_look_54 : decode cX2_look 54 = .ok (.aload_n 0, 1) := by decide +kernel
theorem dX2_look_55 : decode cX2_look 55 = .ok (.getfield 17, 3) := by decide +kernel
theorem dX2_look_58 : decode cX2_look 58 = .ok (.iload_n 1, 1) := by decide +kernel
theorem dX2_look_59 : decode cX2_look 59 = .ok (.laload, 1) := by decide +kernel
theorem dX2_look_60 : decode cX2_look 60 = .ok (.lreturn, 1) := by decide +kernel
theorem dX2_look_61 : decode cX2_look 61 = .ok (.aload_n 0, 1) := by decide +kernel
theorem dX2_look_62 : decode cX2_look 62 = .ok (.getfield 9, 3) := by decide +kernel
theorem dX2_look_65 : decode cX2_look 65 = .ok (.iload_n 1, 1) := by decide +kernel
theorem dX2_look_66 : decode cX2_look 66 = .ok (.iaload, 1) := by decide +kernel
theorem dX2_look_67 : decode cX2_look 67 = .ok (.i2l, 1) := by decide +kernel
theorem dX2_look_68 : decode cX2_look 68 = .ok (.lreturn, 1) := by decide +kernel
theorem dX2_look_69 : decode cX2_look 69 = .ok (.lconst 0, 1) := by decide +kernel
theorem dX2_look_70 : decode cX2_look 70 = .ok (.lreturn, 1) := by decide +kernel
set_option maxRecDepth 20000 in
theorem ggX2_count_X1_held : GoodIn wsX2_count wsX1_held := goodIn_r _ [10, 11, 26, 27, 28, 29] (by decide +kernel) (by decide +kernel)
set_option maxRecDepth 20000 in
theorem gX2_count_X1_held : GoodIn wsX2_count (wsV RX2 89 RX1 yX1_held wsX1_held) := goodIn_app (goodIn_of _ (by decide +kernel)) ggX2_count_X1_held
theorem dX2_count_0 : decode cX2_count 0 = .ok (.iload_n 1, 1) := by decide +kernel
theorem dX2_count_1 : decode cX2_count 1 = .ok (.tableswitch 63 0 4 #[35, 40, 45, 53, 58], 35) := by decide +kernel
theorem dX2_count_36 : decode cX2_count 36 = .ok (.aload_n 0, 1) := by decide +kernel
theorem dX2_count_37 : decode cX2_count 37 = .ok (.getfield 51, 3) := by decide +kernel
theorem dX2_count_40 : decode cX2_count 40 = .ok (.ireturn, 1) := by decide +kernel
theorem dX2_count_41 : decode cX2_count 41 = .ok (.aload_n 0, 1) := by decide +kernel
theorem dX2_count_42 : decode cX2_count 42 = .ok (.getfield 64, 3) := by decide +kernel
theorem dX2_count_45 : decode cX2_count 45 = .ok (.ireturn, 1) := by decide +kernel
theorem dX2_count_46 : decode cX2_count 46 = .ok (.aload_n 0, 1) := by decide +kernel
theorem dX2_count_47 : decode cX2_count 47 = .ok (.getfield 39, 3) := by decide +kernel
theorem dX2_count_50 : decode cX2_count 50 = .ok (.invokevirtual 89, 3) := by decide +kernel
theorem dX2_count_53 : decode cX2_count 53 = .ok (.ireturn, 1) := by decide +kernel
theorem dX2_count_54 : decode cX2_count 54 = .ok (.aload_n 0, 1) := by decide +kernel
theorem dX2_count_55 : decode cX2_count 55 = .ok (.getfield 107, 3) := by decide +kernel
theorem dX2_count_58 : decode cX2_count 58 = .ok (.ireturn, 1) := by decide +kernel
theorem dX2_count_59 : decode cX2_count 59 = .ok (.aload_n 0, 1) := by decide +kernel
theorem dX2_count_60 : decode cX2_count 60 = .ok (.getfield 47, 3) := by decide +kernel
theorem dX2_count_63 : decode cX2_count 63 = .ok (.ireturn, 1) := by decide +kernel
theorem dX2_count_64 : decode cX2_count 64 = .ok (.iconst (-1), 1) := by decide +kernel
theorem dX2_count_65 : decode cX2_count 65 = .ok (.ireturn, 1) := by decide +kernel
set_option maxRecDepth 20000 in
theorem ggX2_faultOfDial_X0_isOfKind : GoodIn wsX2_faultOfDial wsX0_isOfKind := goodIn_r _ [5, 6, 7, 8, 9, 10] (by decide +kernel) (by decide +kernel)
set_option maxRecDepth 20000 in
theorem gX2_faultOfDial_X0_isOfKind : GoodIn wsX2_faultOfDial (va_wsS RX2 110 yX0_isOfKind wsX0_isOfKind) := goodIn_app (goodIn_of _ (by decide +kernel)) ggX2_faultOfDial_X0_isOfKind
set_option maxRecDepth 20000 in
theorem ggX2_faultOfDial_X0_compared : GoodIn wsX2_faultOfDial wsX0_compared := goodIn_r _ [13, 14, 15, 4, 16, 17, 18, 19, 20, 21, 22, 7, 9] (by decide +kernel) (by decide +kernel)
set_option maxRecDepth 20000 in
theorem gX2_faultOfDial_X0_compared : GoodIn wsX2_faultOfDial (va_wsS RX2 100 yX0_compared wsX0_compared) := goodIn_app (goodIn_of _ (by decide +kernel)) ggX2_faultOfDial_X0_compared
theorem dX2_faultOfDial_0 : decode cX2_faultOfDial 0 = .ok (.iload_n 1, 1) := by decide +kernel
theorem dX2_faultOfDial_1 : decode cX2_faultOfDial 1 = .ok (.ifCond .lt 8, 3) := by decide +kernel
theorem dX2_faultOfDial_4 : decode cX2_faultOfDial 4 = .ok (.iload_n 1, 1) := by decide +kernel
theorem dX2_faultOfDial_5 : decode cX2_faultOfDial 5 = .ok (.iconst 3, 1) := by decide +kernel
theorem dX2_faultOfDial_6 : decode cX2_faultOfDial 6 = .ok (.if_icmp .le 5, 3) := by decide +kernel
theorem dX2_faultOfDial_9 : decode cX2_faultOfDial 9 = .ok (.iconst 2, 1) := by decide +kernel
theorem dX2_faultOfDial_10 : decode cX2_faultOfDial 10 = .ok (.ireturn, 1) := by decide +kernel
theorem dX2_faultOfDial_11 : decode cX2_faultOfDial 11 = .ok (.aload_n 0, 1) := by decide +kernel
theorem dX2_faultOfDial_12 : decode cX2_faultOfDial 12 = .ok (.getfield 51, 3) := by decide +kernel
theorem dX2_faultOfDial_15 : decode cX2_faultOfDial 15 = .ok (.bipush 16, 2) := by decide +kernel
theorem dX2_faultOfDial_17 : decode cX2_faultOfDial 17 = .ok (.if_icmp .lt 5, 3) := by decide +kernel
theorem dX2_faultOfDial_20 : decode cX2_faultOfDial 20 = .ok (.iconst 5, 1) := by decide +kernel
theorem dX2_faultOfDial_21 : decode cX2_faultOfDial 21 = .ok (.ireturn, 1) := by decide +kernel
theorem dX2_faultOfDial_22 : decode cX2_faultOfDial 22 = .ok (.iload_n 1, 1) := by decide +kernel
theorem dX2_faultOfDial_23 : decode cX2_faultOfDial 23 = .ok (.lload_n 2, 1) := by decide +kernel
theorem dX2_faultOfDial_24 : decode cX2_faultOfDial 24 = .ok (.invokestatic 110, 3) := by decide +kernel
theorem dX2_faultOfDial_27 : decode cX2_faultOfDial 27 = .ok (.ifCond .eq 12, 3) := by decide +kernel
theorem dX2_faultOfDial_30 : decode cX2_faultOfDial 30 = .ok (.iload_n 1, 1) := by decide +kernel
theorem dX2_faultOfDial_31 : decode cX2_faultOfDial 31 = .ok (.lload 4, 2) := by decide +kernel
theorem dX2_faultOfDial_33 : decode cX2_faultOfDial 33 = .ok (.invokestatic 110, 3) := by decide +kernel
theorem dX2_faultOfDial_36 : decode cX2_faultOfDial 36 = .ok (.ifCond .ne 5, 3) := by decide +kernel
theorem dX2_faultOfDial_39 : decode cX2_faultOfDial 39 = .ok (.iconst 3, 1) := by decide +kernel
theorem dX2_faultOfDial_40 : decode cX2_faultOfDial 40 = .ok (.ireturn, 1) := by decide +kernel
theorem dX2_faultOfDial_41 : decode cX2_faultOfDial 41 = .ok (.iload_n 1, 1) := by decide +kernel
theorem dX2_faultOfDial_42 : decode cX2_faultOfDial 42 = .ok (.lload_n 2, 1) := by decide +kernel
theorem dX2_faultOfDial_43 : decode cX2_faultOfDial 43 = .ok (.lload 4, 2) := by decide +kernel
theorem dX2_faultOfDial_45 : decode cX2_faultOfDial 45 = .ok (.invokestatic 100, 3) := by decide +kernel
theorem dX2_faultOfDial_48 : decode cX2_faultOfDial 48 = .ok (.ifCond .le 7, 3) := by decide +kernel
theorem dX2_faultOfDial_51 : decode cX2_faultOfDial 51 = .ok (.iconst 4, 1) := by decide +kernel
theorem dX2_faultOfDial_52 : decode cX2_faultOfDial 52 = .ok (.goto 4, 3) := by decide +kernel
theorem dX2_faultOfDial_55 : decode cX2_faultOfDial 55 = .ok (.iconst 0, 1) := by decide +kernel
theorem dX2_faultOfDial_56 : decode cX2_faultOfDial 56 = .ok (.ireturn, 1) := by decide +kernel
set_option maxRecDepth 20000 in
theorem ggX2_faultOfRod_X2_isSort : GoodIn wsX2_faultOfRod wsX2_isSort := goodIn_r _ [5] (by decide +kernel) (by decide +kernel)
set_option maxRecDepth 20000 in
theorem gX2_faultOfRod_X2_isSort : GoodIn wsX2_faultOfRod (va_wsS RX2 114 yX2_isSort wsX2_isSort) := goodIn_app (goodIn_of _ (by decide +kernel)) ggX2_faultOfRod_X2_isSort
set_option maxRecDepth 20000 in
theorem ggX2_faultOfRod_X2_isDial : GoodIn wsX2_faultOfRod wsX2_isDial := goodIn_r _ [9, 10, 20, 21, 22, 23, 24, 25, 26, 27, 28, 29, 30, 31, 32, 33] (by decide +kernel) (by decide +kernel)
set_option maxRecDepth 20000 in
theorem gX2_faultOfRod_X2_isDial : GoodIn wsX2_faultOfRod (wsV RX2 103 RX2 yX2_isDial wsX2_isDial) := goodIn_app (goodIn_of _ (by decide +kernel)) ggX2_faultOfRod_X2_isDial
set_option maxRecDepth 20000 in
theorem ggX2_faultOfRod_X2_faultOfPair : GoodIn wsX2_faultOfRod wsX2_faultOfPair := goodIn_r _ [14, 15, 16, 17, 18, 19, 20, 21, 22, 23, 24, 25, 26, 27, 28, 29, 30, 31, 32, 33] (by decide +kernel) (by decide +kernel)
set_option maxRecDepth 20000 in
theorem gX2_faultOfRod_X2_faultOfPair : GoodIn wsX2_faultOfRod (wsV RX2 117 RX2 yX2_faultOfPair wsX2_faultOfPair) := goodIn_app (goodIn_of _ (by decide +kernel)) ggX2_faultOfRod_X2_faultOfPair
theorem dX2_faultOfRod_0 : decode cX2_faultOfRod 0 = .ok (.iload_n 1, 1) := by decide +kernel
theorem dX2_faultOfRod_1 : decode cX2_faultOfRod 1 = .ok (.invokestatic 114, 3) := by decide +kernel
theorem dX2_faultOfRod_4 : decode cX2_faultOfRod 4 = .ok (.ifCond .ne 5, 3) := by decide +kernel
theorem dX2_faultOfRod_7 : decode cX2_faultOfRod 7 = .ok (.iconst 2, 1) := by decide +kernel
theorem dX2_faultOfRod_8 : decode cX2_faultOfRod 8 = .ok (.ireturn, 1) := by decide +kernel
theorem dX2_faultOfRod_9 : decode cX2_faultOfRod 9 = .ok (.aload_n 0, 1) := by decide +kernel
theorem dX2_faultOfRod_10 : decode cX2_faultOfRod 10 = .ok (.iload_n 2, 1) := by decide +kernel
theorem dX2_faultOfRod_11 : decode cX2_faultOfRod 11 = .ok (.invokevirtual 103, 3) := by decide +kernel
theorem dX2_faultOfRod_14 : decode cX2_faultOfRod 14 = .ok (.ifCond .eq 11, 3) := by decide +kernel
theorem dX2_faultOfRod_17 : decode cX2_faultOfRod 17 = .ok (.aload_n 0, 1) := by decide +kernel
theorem dX2_faultOfRod_18 : decode cX2_faultOfRod 18 = .ok (.iload_n 3, 1) := by decide +kernel
theorem dX2_faultOfRod_19 : decode cX2_faultOfRod 19 = .ok (.invokevirtual 103, 3) := by decide +kernel
theorem dX2_faultOfRod_22 : decode cX2_faultOfRod 22 = .ok (.ifCond .ne 5, 3) := by decide +kernel
theorem dX2_faultOfRod_25 : decode cX2_faultOfRod 25 = .ok (.iconst 1, 1) := by decide +kernel
theorem dX2_faultOfRod_26 : decode cX2_faultOfRod 26 = .ok (.ireturn, 1) := by decide +kernel
theorem dX2_faultOfRod_27 : decode cX2_faultOfRod 27 = .ok (.aload_n 0, 1) := by decide +kernel
theorem dX2_faultOfRod_28 : decode cX2_faultOfRod 28 = .ok (.iload_n 1, 1) := by decide +kernel
theorem dX2_faultOfRod_29 : decode cX2_faultOfRod 29 = .ok (.iload_n 2, 1) := by decide +kernel
theorem dX2_faultOfRod_30 : decode cX2_faultOfRod 30 = .ok (.iload_n 3, 1) := by decide +kernel
theorem dX2_faultOfRod_31 : decode cX2_faultOfRod 31 = .ok (.invokevirtual 117, 3) := by decide +kernel
theorem dX2_faultOfRod_34 : decode cX2_faultOfRod 34 = .ok (.istore 4, 2) := by decide +kernel
theorem dX2_faultOfRod_36 : decode cX2_faultOfRod 36 = .ok (.iload 4, 2) := by decide +kernel
theorem dX2_faultOfRod_38 : decode cX2_faultOfRod 38 = .ok (.ifCond .eq 6, 3) := by decide +kernel
theorem dX2_faultOfRod_41 : decode cX2_faultOfRod 41 = .ok (.iload 4, 2) := by decide +kernel
theorem dX2_faultOfRod_43 : decode cX2_faultOfRod 43 = .ok (.ireturn, 1) := by decide +kernel
theorem dX2_faultOfRod_44 : decode cX2_faultOfRod 44 = .ok (.aload_n 0, 1) := by decide +kernel
theorem dX2_faultOfRod_45 : decode cX2_faultOfRod 45 = .ok (.getfield 64, 3) := by decide +kernel
theorem dX2_faultOfRod_48 : decode cX2_faultOfRod 48 = .ok (.bipush 24, 2) := by decide +kernel
theorem dX2_faultOfRod_50 : decode cX2_faultOfRod 50 = .ok (.if_icmp .lt 7, 3) := by decide +kernel
theorem dX2_faultOfRod_53 : decode cX2_faultOfRod 53 = .ok (.iconst 5, 1) := by decide +kernel
theorem dX2_faultOfRod_54 : decode cX2_faultOfRod 54 = .ok (.goto 4, 3) := by decide +kernel
theorem dX2_faultOfRod_57 : decode cX2_faultOfRod 57 = .ok (.iconst 0, 1) := by decide +kernel
theorem dX2_faultOfRod_58 : decode cX2_faultOfRod 58 = .ok (.ireturn, 1) := by decide +kernel
set_option maxRecDepth 20000 in
theorem ggX2_faultOfSet_X2_isDial : GoodIn wsX2_faultOfSet wsX2_isDial := goodIn_r _ [6, 7, 17, 18, 19, 20, 21, 22, 23, 24, 25, 26, 27, 28, 29, 30] (by decide +kernel) (by decide +kernel)
set_option maxRecDepth 20000 in
theorem gX2_faultOfSet_X2_isDial : GoodIn wsX2_faultOfSet (wsV RX2 103 RX2 yX2_isDial wsX2_isDial) := goodIn_app (goodIn_of _ (by decide +kernel)) ggX2_faultOfSet_X2_isDial
set_option maxRecDepth 20000 in
theorem ggX2_faultOfSet_X0_isOfKind : GoodIn wsX2_faultOfSet wsX0_isOfKind := goodIn_r _ [11, 12, 13, 14, 15, 16] (by decide +kernel) (by decide +kernel)
set_option maxRecDepth 20000 in
theorem gX2_faultOfSet_X0_isOfKind : GoodIn wsX2_faultOfSet (va_wsS RX2 110 yX0_isOfKind wsX0_isOfKind) := goodIn_app (goodIn_of _ (by decide +kernel)) ggX2_faultOfSet_X0_isOfKind
theorem dX2_faultOfSet_0 : decode cX2_faultOfSet 0 = .ok (.aload_n 0, 1) := by decide +kernel
theorem dX2_faultOfSet_1 : decode cX2_faultOfSet 1 = .ok (.iload_n 1, 1) := by decide +kernel
theorem dX2_faultOfSet_2 : decode cX2_faultOfSet 2 = .ok (.invokevirtual 103, 3) := by decide +kernel
theorem dX2_faultOfSet_5 : decode cX2_faultOfSet 5 = .ok (.ifCond .ne 5, 3) := by decide +kernel
theorem dX2_faultOfSet_8 : decode cX2_faultOfSet 8 = .ok (.iconst 1, 1) := by decide +kernel
theorem dX2_faultOfSet_9 : decode cX2_faultOfSet 9 = .ok (.ireturn, 1) := by decide +kernel
theorem dX2_faultOfSet_10 : decode cX2_faultOfSet 10 = .ok (.aload_n 0, 1) := by decide +kernel
theorem dX2_faultOfSet_11 : decode cX2_faultOfSet 11 = .ok (.getfield 9, 3) := by decide +kernel
theorem dX2_faultOfSet_14 : decode cX2_faultOfSet 14 = .ok (.iload_n 1, 1) := by decide +kernel
theorem dX2_faultOfSet_15 : decode cX2_faultOfSet 15 = .ok (.iaload, 1) := by decide +kernel
theorem dX2_faultOfSet_16 : decode cX2_faultOfSet 16 = .ok (.lload_n 2, 1) := by decide +kernel
theorem dX2_faultOfSet_17 : decode cX2_faultOfSet 17 = .ok (.invokestatic 110, 3) := by decide +kernel
theorem dX2_faultOfSet_20 : decode cX2_faultOfSet 20 = .ok (.ifCond .eq 7, 3) := by decide +kernel
theorem dX2_faultOfSet_23 : decode cX2_faultOfSet 23 = .ok (.iconst 0, 1) := by decide +kernel
theorem dX2_faultOfSet_24 : decode cX2_faultOfSet 24 = .ok (.goto 4, 3) := by decide +kernel
theorem dX2_faultOfSet_27 : decode cX2_faultOfSet 27 = .ok (.iconst 3, 1) := by decide +kernel
theorem dX2_faultOfSet_28 : decode cX2_faultOfSet 28 = .ok (.ireturn, 1) := by decide +kernel
set_option maxRecDepth 20000 in
theorem ggX2_faultOfTurn_X2_isDial : GoodIn wsX2_faultOfTurn wsX2_isDial := goodIn_r _ [6, 7, 12, 13, 14, 15, 16, 17, 18, 19, 20, 21, 22, 23, 24, 25] (by decide +kernel) (by decide +kernel)
set_option maxRecDepth 20000 in
theorem gX2_faultOfTurn_X2_isDial : GoodIn wsX2_faultOfTurn (wsV RX2 103 RX2 yX2_isDial wsX2_isDial) := goodIn_app (goodIn_of _ (by decide +kernel)) ggX2_faultOfTurn_X2_isDial
set_option maxRecDepth 20000 in
theorem ggX2_faultOfTurn_X0_isReal : GoodIn wsX2_faultOfTurn wsX0_isReal := goodIn_r _ [11] (by decide +kernel) (by decide +kernel)
set_option maxRecDepth 20000 in
theorem gX2_faultOfTurn_X0_isReal : GoodIn wsX2_faultOfTurn (va_wsS RX2 120 yX0_isReal wsX0_isReal) := goodIn_app (goodIn_of _ (by decide +kernel)) ggX2_faultOfTurn_X0_isReal
theorem dX2_faultOfTurn_0 : decode cX2_faultOfTurn 0 = .ok (.aload_n 0, 1) := by decide +kernel
theorem dX2_faultOfTurn_1 : decode cX2_faultOfTurn 1 = .ok (.iload_n 1, 1) := by decide +kernel
theorem dX2_faultOfTurn_2 : decode cX2_faultOfTurn 2 = .ok (.invokevirtual 103, 3) := by decide +kernel
theorem dX2_faultOfTurn_5 : decode cX2_faultOfTurn 5 = .ok (.ifCond .ne 5, 3) := by decide +kernel
theorem dX2_faultOfTurn_8 : decode cX2_faultOfTurn 8 = .ok (.iconst 1, 1) := by decide +kernel
theorem dX2_faultOfTurn_9 : decode cX2_faultOfTurn 9 = .ok (.ireturn, 1) := by decide +kernel
theorem dX2_faultOfTurn_10 : decode cX2_faultOfTurn 10 = .ok (.aload_n 0, 1) := by decide +kernel
theorem dX2_faultOfTurn_11 : decode cX2_faultOfTurn 11 = .ok (.getfield 9, 3) := by decide +kernel
theorem dX2_faultOfTurn_14 : decode cX2_faultOfTurn 14 = .ok (.iload_n 1, 1) := by decide +kernel
theorem dX2_faultOfTurn_15 : decode cX2_faultOfTurn 15 = .ok (.iaload, 1) := by decide +kernel
theorem dX2_faultOfTurn_16 : decode cX2_faultOfTurn 16 = .ok (.invokestatic 120, 3) := by decide +kernel
theorem dX2_faultOfTurn_19 : decode cX2_faultOfTurn 19 = .ok (.ifCond .eq 7, 3) := by decide +kernel
theorem dX2_faultOfTurn_22 : decode cX2_faultOfTurn 22 = .ok (.iconst 4, 1) := by decide +kernel
theorem dX2_faultOfTurn_23 : decode cX2_faultOfTurn 23 = .ok (.goto 4, 3) := by decide +kernel
theorem dX2_faultOfTurn_26 : decode cX2_faultOfTurn 26 = .ok (.iconst 0, 1) := by decide +kernel
theorem dX2_faultOfTurn_27 : decode cX2_faultOfTurn 27 = .ok (.istore_n 3, 1) := by decide +kernel
theorem dX2_faultOfTurn_28 : decode cX2_faultOfTurn 28 = .ok (.iload_n 2, 1) := by decide +kernel
theorem dX2_faultOfTurn_29 : decode cX2_faultOfTurn 29 = .ok (.ifCond .lt 8, 3) := by decide +kernel
theorem dX2_faultOfTurn_32 : decode cX2_faultOfTurn 32 = .ok (.iload_n 2, 1) := by decide +kernel
theorem dX2_faultOfTurn_33 : decode cX2_faultOfTurn 33 = .ok (.iload_n 3, 1) := by decide +kernel
theorem dX2_faultOfTurn_34 : decode cX2_faultOfTurn 34 = .ok (.if_icmp .le 7, 3) := by decide +kernel
theorem dX2_faultOfTurn_37 : decode cX2_faultOfTurn 37 = .ok (.iconst 2, 1) := by decide +kernel
theorem dX2_faultOfTurn_38 : decode cX2_faultOfTurn 38 = .ok (.goto 4, 3) := by decide +kernel
theorem dX2_faultOfTurn_41 : decode cX2_faultOfTurn 41 = .ok (.iconst 0, 1) := by decide +kernel
theorem dX2_faultOfTurn_42 : decode cX2_faultOfTurn 42 = .ok (.ireturn, 1) := by decide +kernel
set_option maxRecDepth 20000 in
theorem ggX2_faultOfTake_X2_isDial : GoodIn wsX2_faultOfTake wsX2_isDial := goodIn_r _ [5, 6, 19, 20, 21, 22, 23, 24, 25, 26, 27, 28, 29, 30, 31, 32] (by decide +kernel) (by decide +kernel)
set_option maxRecDepth 20000 in
theorem gX2_faultOfTake_X2_isDial : GoodIn wsX2_faultOfTake (wsV RX2 103 RX2 yX2_isDial wsX2_isDial) := goodIn_app (goodIn_of _ (by decide +kernel)) ggX2_faultOfTake_X2_isDial
set_option maxRecDepth 20000 in
theorem ggX2_faultOfTake_X2_isSort : GoodIn wsX2_faultOfTake wsX2_isSort := goodIn_r _ [9] (by decide +kernel) (by decide +kernel)
set_option maxRecDepth 20000 in
theorem gX2_faultOfTake_X2_isSort : GoodIn wsX2_faultOfTake (va_wsS RX2 114 yX2_isSort wsX2_isSort) := goodIn_app (goodIn_of _ (by decide +kernel)) ggX2_faultOfTake_X2_isSort
set_option maxRecDepth 20000 in
theorem ggX2_faultOfTake_X2_faultOfPair : GoodIn wsX2_faultOfTake wsX2_faultOfPair := goodIn_r _ [13, 14, 15, 16, 17, 18, 19, 20, 21, 22, 23, 24, 25, 26, 27, 28, 29, 30, 31, 32] (by decide +kernel) (by decide +kernel)
set_option maxRecDepth 20000 in
theorem gX2_faultOfTake_X2_faultOfPair : GoodIn wsX2_faultOfTake (wsV RX2 117 RX2 yX2_faultOfPair wsX2_faultOfPair) := goodIn_app (goodIn_of _ (by decide +kernel)) ggX2_faultOfTake_X2_faultOfPair
theorem dX2_faultOfTake_0 : decode cX2_faultOfTake 0 = .ok (.aload_n 0, 1) := by decide +kernel
theorem dX2_faultOfTake_1 : decode cX2_faultOfTake 1 = .ok (.iload_n 1, 1) := by decide +kernel
theorem dX2_faultOfTake_2 : decode cX2_faultOfTake 2 = .ok (.invokevirtual 103, 3) := by decide +kernel
theorem dX2_faultOfTake_5 : decode cX2_faultOfTake 5 = .ok (.ifCond .eq 11, 3) := by decide +kernel
theorem dX2_faultOfTake_8 : decode cX2_faultOfTake 8 = .ok (.aload_n 0, 1) := by decide +kernel
theorem dX2_faultOfTake_9 : decode cX2_faultOfTake 9 = .ok (.iload_n 2, 1) := by decide +kernel
theorem dX2_faultOfTake_10 : decode cX2_faultOfTake 10 = .ok (.invokevirtual 103, 3) := by decide +kernel
theorem dX2_faultOfTake_13 : decode cX2_faultOfTake 13 = .ok (.ifCond .ne 5, 3) := by decide +kernel
theorem dX2_faultOfTake_16 : decode cX2_faultOfTake 16 = .ok (.iconst 1, 1) := by decide +kernel
theorem dX2_faultOfTake_17 : decode cX2_faultOfTake 17 = .ok (.ireturn, 1) := by decide +kernel
theorem dX2_faultOfTake_18 : decode cX2_faultOfTake 18 = .ok (.iload_n 3, 1) := by decide +kernel
theorem dX2_faultOfTake_19 : decode cX2_faultOfTake 19 = .ok (.invokestatic 114, 3) := by decide +kernel
theorem dX2_faultOfTake_22 : decode cX2_faultOfTake 22 = .ok (.ifCond .ne 5, 3) := by decide +kernel
theorem dX2_faultOfTake_25 : decode cX2_faultOfTake 25 = .ok (.iconst 2, 1) := by decide +kernel
theorem dX2_faultOfTake_26 : decode cX2_faultOfTake 26 = .ok (.ireturn, 1) := by decide +kernel
theorem dX2_faultOfTake_27 : decode cX2_faultOfTake 27 = .ok (.aload_n 0, 1) := by decide +kernel
theorem dX2_faultOfTake_28 : decode cX2_faultOfTake 28 = .ok (.iload_n 3, 1) := by decide +kernel
theorem dX2_faultOfTake_29 : decode cX2_faultOfTake 29 = .ok (.iload_n 2, 1) := by decide +kernel
theorem dX2_faultOfTake_30 : decode cX2_faultOfTake 30 = .ok (.iload_n 1, 1) := by decide +kernel
theorem dX2_faultOfTake_31 : decode cX2_faultOfTake 31 = .ok (.invokevirtual 117, 3) := by decide +kernel
theorem dX2_faultOfTake_34 : decode cX2_faultOfTake 34 = .ok (.ireturn, 1) := by decide +kernel
set_option maxRecDepth 20000 in
theorem ggX2_faultOfOrder_X2_isDial : GoodIn wsX2_faultOfOrder wsX2_isDial := goodIn_r _ [6, 7, 8, 9, 10, 11, 12, 13, 14, 15, 16, 17, 18, 19, 20, 21] (by decide +kernel) (by decide +kernel)
set_option maxRecDepth 20000 in
theorem gX2_faultOfOrder_X2_isDial : GoodIn wsX2_faultOfOrder (wsV RX2 103 RX2 yX2_isDial wsX2_isDial) := goodIn_app (goodIn_of _ (by decide +kernel)) ggX2_faultOfOrder_X2_isDial
theorem dX2_faultOfOrder_0 : decode cX2_faultOfOrder 0 = .ok (.aload_n 0, 1) := by decide +kernel
theorem dX2_faultOfOrder_1 : decode cX2_faultOfOrder 1 = .ok (.iload_n 1, 1) := by decide +kernel
theorem dX2_faultOfOrder_2 : decode cX2_faultOfOrder 2 = .ok (.invokevirtual 103, 3) := by decide +kernel
theorem dX2_faultOfOrder_5 : decode cX2_faultOfOrder 5 = .ok (.ifCond .eq 11, 3) := by decide +kernel
theorem dX2_faultOfOrder_8 : decode cX2_faultOfOrder 8 = .ok (.aload_n 0, 1) := by decide +kernel
theorem dX2_faultOfOrder_9 : decode cX2_faultOfOrder 9 = .ok (.iload_n 2, 1) := by decide +kernel
theorem dX2_faultOfOrder_10 : decode cX2_faultOfOrder 10 = .ok (.invokevirtual 103, 3) := by decide +kernel
theorem dX2_faultOfOrder_13 : decode cX2_faultOfOrder 13 = .ok (.ifCond .ne 5, 3) := by decide +kernel
theorem dX2_faultOfOrder_16 : decode cX2_faultOfOrder 16 = .ok (.iconst 1, 1) := by decide +kernel
theorem dX2_faultOfOrder_17 : decode cX2_faultOfOrder 17 = .ok (.ireturn, 1) := by decide +kernel
theorem dX2_faultOfOrder_18 : decode cX2_faultOfOrder 18 = .ok (.aload_n 0, 1) := by decide +kernel
theorem dX2_faultOfOrder_19 : decode cX2_faultOfOrder 19 = .ok (.getfield 9, 3) := by decide +kernel
theorem dX2_faultOfOrder_22 : decode cX2_faultOfOrder 22 = .ok (.iload_n 1, 1) := by decide +kernel
theorem dX2_faultOfOrder_23 : decode cX2_faultOfOrder 23 = .ok (.iaload, 1) := by decide +kernel
theorem dX2_faultOfOrder_24 : decode cX2_faultOfOrder 24 = .ok (.aload_n 0, 1) := by decide +kernel
theorem dX2_faultOfOrder_25 : decode cX2_faultOfOrder 25 = .ok (.getfield 9, 3) := by decide +kernel
theorem dX2_faultOfOrder_28 : decode cX2_faultOfOrder 28 = .ok (.iload_n 2, 1) := by decide +kernel
theorem dX2_faultOfOrder_29 : decode cX2_faultOfOrder 29 = .ok (.iaload, 1) := by decide +kernel
theorem dX2_faultOfOrder_30 : decode cX2_faultOfOrder 30 = .ok (.if_icmp .eq 8, 3) := by decide +kernel
theorem dX2_faultOfOrder_33 : decode cX2_faultOfOrder 33 = .ok (.bipush 6, 2) := by decide +kernel
theorem dX2_faultOfOrder_35 : decode cX2_faultOfOrder 35 = .ok (.goto 4, 3) := by decide +kernel
theorem dX2_faultOfOrder_38 : decode cX2_faultOfOrder 38 = .ok (.iconst 0, 1) := by decide +kernel
theorem dX2_faultOfOrder_39 : decode cX2_faultOfOrder 39 = .ok (.ireturn, 1) := by decide +kernel
set_option maxRecDepth 20000 in
theorem ggX2_faultOfPair_X0_isReal : GoodIn wsX2_faultOfPair wsX0_isReal := goodIn_r _ [5] (by decide +kernel) (by decide +kernel)
set_option maxRecDepth 20000 in
theorem gX2_faultOfPair_X0_isReal : GoodIn wsX2_faultOfPair (va_wsS RX2 120 yX0_isReal wsX0_isReal) := goodIn_app (goodIn_of _ (by decide +kernel)) ggX2_faultOfPair_X0_isReal
theorem dX2_faultOfPair_0 : decode cX2_faultOfPair 0 = .ok (.iload_n 2, 1) := by decide +kernel
theorem dX2_faultOfPair_1 : decode cX2_faultOfPair 1 = .ok (.iload_n 3, 1) := by decide +kernel
theorem dX2_faultOfPair_2 : decode cX2_faultOfPair 2 = .ok (.if_icmp .eq 18, 3) := by decide +kernel
theorem dX2_faultOfPair_5 : decode cX2_faultOfPair 5 = .ok (.aload_n 0, 1) := by decide +kernel
theorem dX2_faultOfPair_6 : decode cX2_faultOfPair 6 = .ok (.getfield 9, 3) := by decide +kernel
theorem dX2_faultOfPair_9 : decode cX2_faultOfPair 9 = .ok (.iload_n 2, 1) := by decide +kernel
theorem dX2_faultOfPair_10 : decode cX2_faultOfPair 10 = .ok (.iaload, 1) := by decide +kernel
theorem dX2_faultOfPair_11 : decode cX2_faultOfPair 11 = .ok (.aload_n 0, 1) := by decide +kernel
theorem dX2_faultOfPair_12 : decode cX2_faultOfPair 12 = .ok (.getfield 9, 3) := by decide +kernel
theorem dX2_faultOfPair_15 : decode cX2_faultOfPair 15 = .ok (.iload_n 3, 1) := by decide +kernel
theorem dX2_faultOfPair_16 : decode cX2_faultOfPair 16 = .ok (.iaload, 1) := by decide +kernel
theorem dX2_faultOfPair_17 : decode cX2_faultOfPair 17 = .ok (.if_icmp .eq 6, 3) := by decide +kernel
theorem dX2_faultOfPair_20 : decode cX2_faultOfPair 20 = .ok (.bipush 6, 2) := by decide +kernel
theorem dX2_faultOfPair_22 : decode cX2_faultOfPair 22 = .ok (.ireturn, 1) := by decide +kernel
theorem dX2_faultOfPair_23 : decode cX2_faultOfPair 23 = .ok (.iload_n 1, 1) := by decide +kernel
theorem dX2_faultOfPair_24 : decode cX2_faultOfPair 24 = .ok (.iconst 2, 1) := by decide +kernel
theorem dX2_faultOfPair_25 : decode cX2_faultOfPair 25 = .ok (.if_icmp .ne 19, 3) := by decide +kernel
theorem dX2_faultOfPair_28 : decode cX2_faultOfPair 28 = .ok (.aload_n 0, 1) := by decide +kernel
theorem dX2_faultOfPair_29 : decode cX2_faultOfPair 29 = .ok (.getfield 9, 3) := by decide +kernel
theorem dX2_faultOfPair_32 : decode cX2_faultOfPair 32 = .ok (.iload_n 2, 1) := by decide +kernel
theorem dX2_faultOfPair_33 : decode cX2_faultOfPair 33 = .ok (.iaload, 1) := by decide +kernel
theorem dX2_faultOfPair_34 : decode cX2_faultOfPair 34 = .ok (.invokestatic 120, 3) := by decide +kernel
theorem dX2_faultOfPair_37 : decode cX2_faultOfPair 37 = .ok (.ifCond .ne 7, 3) := by decide +kernel
theorem dX2_faultOfPair_40 : decode cX2_faultOfPair 40 = .ok (.iconst 2, 1) := by decide +kernel
theorem dX2_faultOfPair_41 : decode cX2_faultOfPair 41 = .ok (.goto 4, 3) := by decide +kernel
theorem dX2_faultOfPair_44 : decode cX2_faultOfPair 44 = .ok (.iconst 0, 1) := by decide +kernel
theorem dX2_faultOfPair_45 : decode cX2_faultOfPair 45 = .ok (.ireturn, 1) := by decide +kernel
theorem dX2_isDial_0 : decode cX2_isDial 0 = .ok (.iload_n 1, 1) := by decide +kernel
theorem dX2_isDial_1 : decode cX2_isDial 1 = .ok (.ifCond .lt 15, 3) := by decide +kernel
theorem dX2_isDial_4 : decode cX2_isDial 4 = .ok (.iload_n 1, 1) := by decide +kernel
theorem dX2_isDial_5 : decode cX2_isDial 5 = .ok (.aload_n 0, 1) := by decide +kernel
theorem dX2_isDial_6 : decode cX2_isDial 6 = .ok (.getfield 51, 3) := by decide +kernel
theorem dX2_isDial_9 : decode cX2_isDial 9 = .ok (.if_icmp .ge 7, 3) := by decide +kernel
theorem dX2_isDial_12 : decode cX2_isDial 12 = .ok (.iconst 1, 1) := by decide +kernel
theorem dX2_isDial_13 : decode cX2_isDial 13 = .ok (.goto 4, 3) := by decide +kernel
theorem dX2_isDial_16 : decode cX2_isDial 16 = .ok (.iconst 0, 1) := by decide +kernel
theorem dX2_isDial_17 : decode cX2_isDial 17 = .ok (.ireturn, 1) := by decide +kernel
theorem dX2_isSort_0 : decode cX2_isSort 0 = .ok (.iload_n 0, 1) := by decide +kernel
theorem dX2_isSort_1 : decode cX2_isSort 1 = .ok (.ifCond .lt 12, 3) := by decide +kernel
theorem dX2_isSort_4 : decode cX2_isSort 4 = .ok (.iload_n 0, 1) := by decide +kernel
theorem dX2_isSort_5 : decode cX2_isSort 5 = .ok (.iconst 3, 1) := by decide +kernel
theorem dX2_isSort_6 : decode cX2_isSort 6 = .ok (.if_icmp .gt 7, 3) := by decide +kernel
theorem dX2_isSort_9 : decode cX2_isSort 9 = .ok (.iconst 1, 1) := by decide +kernel
theorem dX2_isSort_10 : decode cX2_isSort 10 = .ok (.goto 4, 3) := by decide +kernel
theorem dX2_isSort_13 : decode cX2_isSort 13 = .ok (.iconst 0, 1) := by decide +kernel
theorem dX2_isSort_14 : decode cX2_isSort 14 = .ok (.ireturn, 1) := by decide +kernel
set_option maxRecDepth 20000 in
theorem ggX2_movesWhenGiven_X2_gets : GoodIn wsX2_movesWhenGiven wsX2_gets := goodIn_r _ [8, 9, 10, 11, 12, 1, 13, 2, 14, 15, 16, 17, 18, 19, 20, 21, 22, 23, 24, 25, 26, 27, 28, 29, 30, 31, 32, 33, 34, 35, 36, 37, 38, 39, 40, 41, 42, 7, 43, 3, 44, 45, 46, 47, 48, 49, 50, 51, 52, 53, 54, 55, 56, 57, 58, 59, 60, 61, 62, 63, 64, 65, 66, 67, 68, 69, 70, 71, 72, 73, 74, 75, 76, 77, 78, 79, 4, 5, 6, 80, 81, 82, 83, 84, 85, 86, 87, 88, 89, 90, 91, 92, 93, 94, 95, 96, 97] (by decide +kernel) (by decide +kernel)
set_option maxRecDepth 20000 in
theorem gX2_movesWhenGiven_X2_gets : GoodIn wsX2_movesWhenGiven (wsV RX2 126 RX2 yX2_gets wsX2_gets) := goodIn_app (goodIn_of _ (by decide +kernel)) ggX2_movesWhenGiven_X2_gets
theorem dX2_movesWhenGiven_0 : decode cX2_movesWhenGiven 0 = .ok (.iconst 0, 1) := by decide +kernel
theorem dX2_movesWhenGiven_1 : decode cX2_movesWhenGiven 1 = .ok (.istore 4, 2) := by decide +kernel
theorem dX2_movesWhenGiven_3 : decode cX2_movesWhenGiven 3 = .ok (.iload 4, 2) := by decide +kernel
theorem dX2_movesWhenGiven_5 : decode cX2_movesWhenGiven 5 = .ok (.aload_n 0, 1) := by decide +kernel
theorem dX2_movesWhenGiven_6 : decode cX2_movesWhenGiven 6 = .ok (.getfield 64, 3) := by decide +kernel
theorem dX2_movesWhenGiven_9 : decode cX2_movesWhenGiven 9 = .ok (.if_icmp .ge 17, 3) := by decide +kernel
theorem dX2_movesWhenGiven_12 : decode cX2_movesWhenGiven 12 = .ok (.aload_n 0, 1) := by decide +kernel
theorem dX2_movesWhenGiven_13 : decode cX2_movesWhenGiven 13 = .ok (.getfield 32, 3) := by decide +kernel
theorem dX2_movesWhenGiven_16 : decode cX2_movesWhenGiven 16 = .ok (.iload 4, 2) := by decide +kernel
theorem dX2_movesWhenGiven_18 : decode cX2_movesWhenGiven 18 = .ok (.iconst 0, 1) := by decide +kernel
theorem dX2_movesWhenGiven_19 : decode cX2_movesWhenGiven 19 = .ok (.bastore, 1) := by decide +kernel
theorem dX2_movesWhenGiven_20 : decode cX2_movesWhenGiven 20 = .ok (.iinc 4 1, 3) := by decide +kernel
theorem dX2_movesWhenGiven_23 : decode cX2_movesWhenGiven 23 = .ok (.goto (-20), 3) := by decide +kernel
theorem dX2_movesWhenGiven_26 : decode cX2_movesWhenGiven 26 = .ok (.aload_n 0, 1) := by decide +kernel
theorem dX2_movesWhenGiven_27 : decode cX2_movesWhenGiven 27 = .ok (.iconst 0, 1) := by decide +kernel
theorem dX2_movesWhenGiven_28 : decode cX2_movesWhenGiven 28 = .ok (.putfield 123, 3) := by decide +kernel
theorem dX2_movesWhenGiven_31 : decode cX2_movesWhenGiven 31 = .ok (.aload_n 0, 1) := by decide +kernel
theorem dX2_movesWhenGiven_32 : decode cX2_movesWhenGiven 32 = .ok (.iload_n 1, 1) := by decide +kernel
theorem dX2_movesWhenGiven_33 : decode cX2_movesWhenGiven 33 = .ok (.lload_n 2, 1) := by decide +kernel
theorem dX2_movesWhenGiven_34 : decode cX2_movesWhenGiven 34 = .ok (.iconst 0, 1) := by decide +kernel
theorem dX2_movesWhenGiven_35 : decode cX2_movesWhenGiven 35 = .ok (.invokevirtual 126, 3) := by decide +kernel
theorem dX2_movesWhenGiven_38 : decode cX2_movesWhenGiven 38 = .ok (.aload_n 0, 1) := by decide +kernel
theorem dX2_movesWhenGiven_39 : decode cX2_movesWhenGiven 39 = .ok (.getfield 123, 3) := by decide +kernel
theorem dX2_movesWhenGiven_42 : decode cX2_movesWhenGiven 42 = .ok (.ireturn, 1) := by decide +kernel
set_option maxRecDepth 20000 in
theorem ggX2_gets_X0_fitted : GoodIn wsX2_gets wsX0_fitted := goodIn_r _ [13, 14, 15, 12, 16, 17, 18, 19, 20, 21, 22, 23, 24, 25, 26, 27, 28, 29, 30, 31, 32, 33] (by decide +kernel) (by decide +kernel)
set_option maxRecDepth 20000 in
theorem gX2_gets_X0_fitted : GoodIn wsX2_gets (va_wsS RX2 54 yX0_fitted wsX0_fitted) := goodIn_app (goodIn_of _ (by decide +kernel)) ggX2_gets_X0_fitted
set_option maxRecDepth 20000 in
theorem ggX2_gets_X2_move : GoodIn wsX2_gets wsX2_move := goodIn_r _ [38, 39, 40, 4, 41, 42, 43, 44, 45, 46, 47, 48, 49, 50, 51, 52, 53, 54, 55, 79, 80, 81, 82, 83, 84, 85, 86, 87, 88, 89, 90, 91, 92, 93, 94, 95, 96] (by decide +kernel) (by decide +kernel)
set_option maxRecDepth 20000 in
theorem gX2_gets_X2_move : GoodIn wsX2_gets (wsV RX2 130 RX2 yX2_move wsX2_move) := goodIn_app (goodIn_of _ (by decide +kernel)) ggX2_gets_X2_move
set_option maxRecDepth 20000 in
theorem ggX2_gets_X2_gift : GoodIn wsX2_gets wsX2_gift := goodIn_r _ [59, 1, 4, 60, 32, 12, 33, 17, 18, 19, 20, 21, 22, 23, 24, 25, 26, 27, 28, 29, 30, 61, 15, 16, 62, 63, 64, 65, 66, 67, 68, 69, 70, 71, 72, 73, 74, 75, 79, 80, 81, 82, 83, 84, 85, 86, 87, 88, 89, 90, 91, 92] (by decide +kernel) (by decide +kernel)
set_option maxRecDepth 20000 in
theorem gX2_gets_X2_gift : GoodIn wsX2_gets (wsV RX2 85 RX2 yX2_gift wsX2_gift) := goodIn_app (goodIn_of _ (by decide +kernel)) ggX2_gets_X2_gift
set_option maxRecDepth 20000 in
theorem ggX2_gets_X2_gets : GoodIn wsX2_gets wsX2_gets := goodIn_r _ [0, 1, 2, 3, 4, 5, 6, 7, 8, 9, 10, 11, 12, 13, 14, 15, 16, 17, 18, 19, 20, 21, 22, 23, 24, 25, 26, 27, 28, 29, 30, 31, 32, 33, 34, 35, 36, 37, 38, 39, 40, 41, 42, 43, 44, 45, 46, 47, 48, 49, 50, 51, 52, 53, 54, 55, 56, 57, 58, 59, 60, 61, 62, 63, 64, 65, 66, 67, 68, 69, 70, 71, 72, 73, 74, 75, 76, 77, 78, 79, 80, 81, 82, 83, 84, 85, 86, 87, 88, 89, 90, 91, 92, 93, 94, 95, 96] (by decide +kernel) (by decide +kernel)
set_option maxRecDepth 20000 in
theorem gX2_gets_X2_gets : GoodIn wsX2_gets (wsV RX2 126 RX2 yX2_gets wsX2_gets) := goodIn_app (goodIn_of _ (by decide +kernel)) ggX2_gets_X2_gets
theorem dX2_gets_0 : decode cX2_gets 0 = .ok (.aload_n 0, 1) := by decide +kernel
theorem dX2_gets_1 : decode cX2_gets 1 = .ok (.getfield 9, 3) := by decide +kernel
theorem dX2_gets_4 : decode cX2_gets 4 = .ok (.iload_n 1, 1) := by decide +kernel
theorem dX2_gets_5 : decode cX2_gets 5 = .ok (.iaload, 1) := by decide +kernel
theorem dX2_gets_6 : decode cX2_gets 6 = .ok (.aload_n 0, 1) := by decide +kernel
theorem dX2_gets_7 : decode cX2_gets 7 = .ok (.getfield 13, 3) := by decide +kernel
theorem dX2_gets_10 : decode cX2_gets 10 = .ok (.iload_n 1, 1) := by decide +kernel
theorem dX2_gets_11 : decode cX2_gets 11 = .ok (.laload, 1) := by decide +kernel
theorem dX2_gets_12 : decode cX2_gets 12 = .ok (.aload_n 0, 1) := by decide +kernel
theorem dX2_gets_13 : decode cX2_gets 13 = .ok (.getfield 17, 3) := by decide +kernel
theorem dX2_gets_16 : decode cX2_gets 16 = .ok (.iload_n 1, 1) := by decide +kernel
theorem dX2_gets_17 : decode cX2_gets 17 = .ok (.laload, 1) := by decide +kernel
theorem dX2_gets_18 : decode cX2_gets 18 = .ok (.lload_n 2, 1) := by decide +kernel
theorem dX2_gets_19 : decode cX2_gets 19 = .ok (.invokestatic 54, 3) := by decide +kernel
theorem dX2_gets_22 : decode cX2_gets 22 = .ok (.lstore 5, 2) := by decide +kernel
theorem dX2_gets_24 : decode cX2_gets 24 = .ok (.lload 5, 2) := by decide +kernel
theorem dX2_gets_26 : decode cX2_gets 26 = .ok (.aload_n 0, 1) := by decide +kernel
theorem dX2_gets_27 : decode cX2_gets 27 = .ok (.getfield 20, 3) := by decide +kernel
theorem dX2_gets_30 : decode cX2_gets 30 = .ok (.iload_n 1, 1) := by decide +kernel
theorem dX2_gets_31 : decode cX2_gets 31 = .ok (.laload, 1) := by decide +kernel
theorem dX2_gets_32 : decode cX2_gets 32 = .ok (.lcmp, 1) := by decide +kernel
theorem dX2_gets_33 : decode cX2_gets 33 = .ok (.ifCond .ne 4, 3) := by decide +kernel
theorem dX2_gets_36 : decode cX2_gets 36 = .ok (.return_, 1) := by decide +kernel
theorem dX2_gets_37 : decode cX2_gets 37 = .ok (.aload_n 0, 1) := by decide +kernel
theorem dX2_gets_38 : decode cX2_gets 38 = .ok (.iload_n 1, 1) := by decide +kernel
theorem dX2_gets_39 : decode cX2_gets 39 = .ok (.lload 5, 2) := by decide +kernel
theorem dX2_gets_41 : decode cX2_gets 41 = .ok (.invokevirtual 130, 3) := by decide +kernel
theorem dX2_gets_44 : decode cX2_gets 44 = .ok (.iload 4, 2) := by decide +kernel
theorem dX2_gets_46 : decode cX2_gets 46 = .ok (.bipush 24, 2) := by decide +kernel
theorem dX2_gets_48 : decode cX2_gets 48 = .ok (.if_icmp .lt 4, 3) := by decide +kernel
theorem dX2_gets_51 : decode cX2_gets 51 = .ok (.return_, 1) := by decide +kernel
theorem dX2_gets_52 : decode cX2_gets 52 = .ok (.iconst 0, 1) := by decide +kernel
theorem dX2_gets_53 : decode cX2_gets 53 = .ok (.istore 7, 2) := by decide +kernel
theorem dX2_gets_55 : decode cX2_gets 55 = .ok (.iload 7, 2) := by decide +kernel
theorem dX2_gets_57 : decode cX2_gets 57 = .ok (.aload_n 0, 1) := by decide +kernel
theorem dX2_gets_58 : decode cX2_gets 58 = .ok (.getfield 64, 3) := by decide +kernel
theorem dX2_gets_61 : decode cX2_gets 61 = .ok (.if_icmp .ge 72, 3) := by decide +kernel
theorem dX2_gets_64 : decode cX2_gets 64 = .ok (.aload_n 0, 1) := by decide +kernel
theorem dX2_gets_65 : decode cX2_gets 65 = .ok (.getfield 26, 3) := by decide +kernel
theorem dX2_gets_68 : decode cX2_gets 68 = .ok (.iload 7, 2) := by decide +kernel
theorem dX2_gets_70 : decode cX2_gets 70 = .ok (.iaload, 1) := by decide +kernel
theorem dX2_gets_71 : decode cX2_gets 71 = .ok (.iload_n 1, 1) := by decide +kernel
theorem dX2_gets_72 : decode cX2_gets 72 = .ok (.if_icmp .ne 55, 3) := by decide +kernel
theorem dX2_gets_75 : decode cX2_gets 75 = .ok (.aload_n 0, 1) := by decide +kernel
theorem dX2_gets_76 : decode cX2_gets 76 = .ok (.getfield 32, 3) := by decide +kernel
theorem dX2_gets_79 : decode cX2_gets 79 = .ok (.iload 7, 2) := by decide +kernel
theorem dX2_gets_81 : decode cX2_gets 81 = .ok (.baload, 1) := by decide +kernel
theorem dX2_gets_82 : decode cX2_gets 82 = .ok (.ifCond .ne 45, 3) := by decide +kernel
theorem dX2_gets_85 : decode cX2_gets 85 = .ok (.aload_n 0, 1) := by decide +kernel
theorem dX2_gets_86 : decode cX2_gets 86 = .ok (.getfield 32, 3) := by decide +kernel
theorem dX2_gets_89 : decode cX2_gets 89 = .ok (.iload 7, 2) := by decide +kernel
theorem dX2_gets_91 : decode cX2_gets 91 = .ok (.iconst 1, 1) := by decide +kernel
theorem dX2_gets_92 : decode cX2_gets 92 = .ok (.bastore, 1) := by decide +kernel
theorem dX2_gets_93 : decode cX2_gets 93 = .ok (.aload_n 0, 1) := by decide +kernel
theorem dX2_gets_94 : decode cX2_gets 94 = .ok (.aload_n 0, 1) := by decide +kernel
theorem dX2_gets_95 : decode cX2_gets 95 = .ok (.getfield 29, 3) := by decide +kernel
theorem dX2_gets_98 : decode cX2_gets 98 = .ok (.iload 7, 2) := by decide +kernel
theorem dX2_gets_100 : decode cX2_gets 100 = .ok (.iaload, 1) := by decide +kernel
theorem dX2_gets_101 : decode cX2_gets 101 = .ok (.aload_n 0, 1) := by decide +kernel
theorem dX2_gets_102 : decode cX2_gets 102 = .ok (.aload_n 0, 1) := by decide +kernel
theorem dX2_gets_103 : decode cX2_gets 103 = .ok (.getfield 23, 3) := by decide +kernel
theorem dX2_gets_106 : decode cX2_gets 106 = .ok (.iload 7, 2) := by decide +kernel
theorem dX2_gets_108 : decode cX2_gets 108 = .ok (.iaload, 1) := by decide +kernel
theorem dX2_gets_109 : decode cX2_gets 109 = .ok (.iload_n 1, 1) := by decide +kernel
theorem dX2_gets_110 : decode cX2_gets 110 = .ok (.aload_n 0, 1) := by decide +kernel
theorem dX2_gets_111 : decode cX2_gets 111 = .ok (.getfield 29, 3) := by decide +kernel
theorem dX2_gets_114 : decode cX2_gets 114 = .ok (.iload 7, 2) := by decide +kernel
theorem dX2_gets_116 : decode cX2_gets 116 = .ok (.iaload, 1) := by decide +kernel
theorem dX2_gets_117 : decode cX2_gets 117 = .ok (.invokevirtual 85, 3) := by decide +kernel
theorem dX2_gets_120 : decode cX2_gets 120 = .ok (.iload 4, 2) := by decide +kernel
theorem dX2_gets_122 : decode cX2_gets 122 = .ok (.iconst 1, 1) := by decide +kernel
theorem dX2_gets_123 : decode cX2_gets 123 = .ok (.iadd, 1) := by decide +kernel
theorem dX2_gets_124 : decode cX2_gets 124 = .ok (.invokevirtual 126, 3) := by decide +kernel
theorem dX2_gets_127 : decode cX2_gets 127 = .ok (.iinc 7 1, 3) := by decide +kernel
theorem dX2_gets_130 : decode cX2_gets 130 = .ok (.goto (-75), 3) := by decide +kernel
theorem dX2_gets_133 : decode cX2_gets 133 = .ok (.return_, 1) := by decide +kernel
set_option maxRecDepth 20000 in
theorem ggX2_move_X1_keep : GoodIn wsX2_move wsX1_keep := goodIn_r _ [10, 11, 12, 13, 14, 15, 16, 17, 18, 33, 34, 35, 36] (by decide +kernel) (by decide +kernel)
set_option maxRecDepth 20000 in
theorem gX2_move_X1_keep : GoodIn wsX2_move (wsV RX2 134 RX1 yX1_keep wsX1_keep) := goodIn_app (goodIn_of _ (by decide +kernel)) ggX2_move_X1_keep
theorem dX2_move_0 : decode cX2_move 0 = .ok (.aload_n 0, 1) := by decide +kernel
theorem dX2_move_1 : decode cX2_move 1 = .ok (.getfield 123, 3) := by decide +kernel
theorem dX2_move_4 : decode cX2_move 4 = .ok (.ifCond .ne 18, 3) := by decide +kernel
theorem dX2_move_7 : decode cX2_move 7 = .ok (.aload_n 0, 1) := by decide +kernel
theorem dX2_move_8 : decode cX2_move 8 = .ok (.getfield 39, 3) := by decide +kernel
theorem dX2_move_11 : decode cX2_move 11 = .ok (.aload_n 0, 1) := by decide +kernel
theorem dX2_move_12 : decode cX2_move 12 = .ok (.getfield 20, 3) := by decide +kernel
theorem dX2_move_15 : decode cX2_move 15 = .ok (.aload_n 0, 1) := by decide +kernel
theorem dX2_move_16 : decode cX2_move 16 = .ok (.getfield 51, 3) := by decide +kernel
theorem dX2_move_19 : decode cX2_move 19 = .ok (.invokevirtual 134, 3) := by decide +kernel
theorem dX2_move_22 : decode cX2_move 22 = .ok (.aload_n 0, 1) := by decide +kernel
theorem dX2_move_23 : decode cX2_move 23 = .ok (.getfield 20, 3) := by decide +kernel
theorem dX2_move_26 : decode cX2_move 26 = .ok (.iload_n 1, 1) := by decide +kernel
theorem dX2_move_27 : decode cX2_move 27 = .ok (.lload_n 2, 1) := by decide +kernel
theorem dX2_move_28 : decode cX2_move 28 = .ok (.lastore, 1) := by decide +kernel
theorem dX2_move_29 : decode cX2_move 29 = .ok (.aload_n 0, 1) := by decide +kernel
theorem dX2_move_30 : decode cX2_move 30 = .ok (.dup, 1) := by decide +kernel
theorem dX2_move_31 : decode cX2_move 31 = .ok (.getfield 123, 3) := by decide +kernel
theorem dX2_move_34 : decode cX2_move 34 = .ok (.iconst 1, 1) := by decide +kernel
theorem dX2_move_35 : decode cX2_move 35 = .ok (.iadd, 1) := by decide +kernel
theorem dX2_move_36 : decode cX2_move 36 = .ok (.putfield 123, 3) := by decide +kernel
theorem dX2_move_39 : decode cX2_move 39 = .ok (.aload_n 0, 1) := by decide +kernel
theorem dX2_move_40 : decode cX2_move 40 = .ok (.dup, 1) := by decide +kernel
theorem dX2_move_41 : decode cX2_move 41 = .ok (.getfield 107, 3) := by decide +kernel
theorem dX2_move_44 : decode cX2_move 44 = .ok (.iconst 1, 1) := by decide +kernel
theorem dX2_move_45 : decode cX2_move 45 = .ok (.iadd, 1) := by decide +kernel
theorem dX2_move_46 : decode cX2_move 46 = .ok (.putfield 107, 3) := by decide +kernel
theorem dX2_move_49 : decode cX2_move 49 = .ok (.return_, 1) := by decide +kernel
set_option maxRecDepth 20000 in
theorem ggX2_gift_X0_greater : GoodIn wsX2_gift wsX0_greater := goodIn_r _ [6, 7, 8, 5, 9, 10, 11, 12, 13, 14, 15, 16, 17, 18, 19, 20] (by decide +kernel) (by decide +kernel)
set_option maxRecDepth 20000 in
theorem gX2_gift_X0_greater : GoodIn wsX2_gift (va_wsS RX2 138 yX0_greater wsX0_greater) := goodIn_app (goodIn_of _ (by decide +kernel)) ggX2_gift_X0_greater
set_option maxRecDepth 20000 in
theorem ggX2_gift_X0_less : GoodIn wsX2_gift wsX0_less := goodIn_r _ [23, 7, 8, 5, 9, 10, 11, 12, 13, 14, 15, 16, 17, 18, 19, 20] (by decide +kernel) (by decide +kernel)
set_option maxRecDepth 20000 in
theorem gX2_gift_X0_less : GoodIn wsX2_gift (va_wsS RX2 142 yX0_less wsX0_less) := goodIn_app (goodIn_of _ (by decide +kernel)) ggX2_gift_X0_less
set_option maxRecDepth 20000 in
theorem ggX2_gift_X0_signed : GoodIn wsX2_gift wsX0_signed := goodIn_r _ [26, 27, 16, 17, 5, 18, 19, 20] (by decide +kernel) (by decide +kernel)
set_option maxRecDepth 20000 in
theorem gX2_gift_X0_signed : GoodIn wsX2_gift (va_wsS RX2 145 yX0_signed wsX0_signed) := goodIn_app (goodIn_of _ (by decide +kernel)) ggX2_gift_X0_signed
set_option maxRecDepth 20000 in
theorem ggX2_gift_X0_sizeOf : GoodIn wsX2_gift wsX0_sizeOf := goodIn_r _ [30, 31, 32, 33, 34, 35, 36, 37, 16, 17, 5, 18, 19, 20] (by decide +kernel) (by decide +kernel)
set_option maxRecDepth 20000 in
theorem gX2_gift_X0_sizeOf : GoodIn wsX2_gift (va_wsS RX2 148 yX0_sizeOf wsX0_sizeOf) := goodIn_app (goodIn_of _ (by decide +kernel)) ggX2_gift_X0_sizeOf
end
section
theorem dX2_gift_0 : decode cX2_gift 0 = .ok (.aload_n 0, 1) := by decide +kernel
theorem dX2_gift_1 : decode cX2_gift 1 = .ok (.getfield 9, 3) := by decide +kernel
theorem dX2_gift_4 : decode cX2_gift 4 = .ok (.iload_n 2, 1) := by decide +kernel
theorem dX2_gift_5 : decode cX2_gift 5 = .ok (.iaload, 1) := by decide +kernel
theorem dX2_gift_6 : decode cX2_gift 6 = .ok (.istore 4, 2) := by decide +kernel
theorem dX2_gift_8 : decode cX2_gift 8 = .ok (.iload_n 1, 1) := by decide +kernel
theorem dX2_gift_9 : decode cX2_gift 9 = .ok (.tableswitch 81 0 2 #[27, 45, 63], 27) := by decide +kernel
theorem dX2_gift_36 : decode cX2_gift 36 = .ok (.iload 4, 2) := by decide +kernel
theorem dX2_gift_38 : decode cX2_gift 38 = .ok (.aload_n 0, 1) := by decide +kernel
theorem dX2_gift_39 : decode cX2_gift 39 = .ok (.getfield 20, 3) := by decide +kernel
theorem dX2_gift_42 : decode cX2_gift 42 = .ok (.iload_n 2, 1) := by decide +kernel
theorem dX2_gift_43 : decode cX2_gift 43 = .ok (.laload, 1) := by decide +kernel
theorem dX2_gift_44 : decode cX2_gift 44 = .ok (.aload_n 0, 1) := by decide +kernel
theorem dX2_gift_45 : decode cX2_gift 45 = .ok (.getfield 20, 3) := by decide +kernel
theorem dX2_gift_48 : decode cX2_gift 48 = .ok (.iload_n 3, 1) := by decide +kernel
theorem dX2_gift_49 : decode cX2_gift 49 = .ok (.laload, 1) := by decide +kernel
theorem dX2_gift_50 : decode cX2_gift 50 = .ok (.invokestatic 138, 3) := by decide +kernel
theorem dX2_gift_53 : decode cX2_gift 53 = .ok (.lreturn, 1) := by decide +kernel
theorem dX2_gift_54 : decode cX2_gift 54 = .ok (.iload 4, 2) := by decide +kernel
theorem dX2_gift_56 : decode cX2_gift 56 = .ok (.aload_n 0, 1) := by decide +kernel
theorem dX2_gift_57 : decode cX2_gift 57 = .ok (.getfield 20, 3) := by decide +kernel
theorem dX2_gift_60 : decode cX2_gift 60 = .ok (.iload_n 2, 1) := by decide +kernel
theorem dX2_gift_61 : decode cX2_gift 61 = .ok (.laload, 1) := by decide +kernel
theorem dX2_gift_62 : decode cX2_gift 62 = .ok (.aload_n 0, 1) := by decide +kernel
theorem dX2_gift_63 : decode cX2_gift 63 = .ok (.getfield 20, 3) := by decide +kernel
theorem dX2_gift_66 : decode cX2_gift 66 = .ok (.iload_n 3, 1) := by decide +kernel
theorem dX2_gift_67 : decode cX2_gift 67 = .ok (.laload, 1) := by decide +kernel
theorem dX2_gift_68 : decode cX2_gift 68 = .ok (.invokestatic 142, 3) := by decide +kernel
theorem dX2_gift_71 : decode cX2_gift 71 = .ok (.lreturn, 1) := by decide +kernel
theorem dX2_gift_72 : decode cX2_gift 72 = .ok (.iload 4, 2) := by decide +kernel
theorem dX2_gift_74 : decode cX2_gift 74 = .ok (.aload_n 0, 1) := by decide +kernel
theorem dX2_gift_75 : decode cX2_gift 75 = .ok (.getfield 20, 3) := by decide +kernel
theorem dX2_gift_78 : decode cX2_gift 78 = .ok (.iload_n 3, 1) := by decide +kernel
theorem dX2_gift_79 : decode cX2_gift 79 = .ok (.laload, 1) := by decide +kernel
theorem dX2_gift_80 : decode cX2_gift 80 = .ok (.aload_n 0, 1) := by decide +kernel
theorem dX2_gift_81 : decode cX2_gift 81 = .ok (.getfield 20, 3) := by decide +kernel
theorem dX2_gift_84 : decode cX2_gift 84 = .ok (.iload_n 2, 1) := by decide +kernel
theorem dX2_gift_85 : decode cX2_gift 85 = .ok (.laload, 1) := by decide +kernel
theorem dX2_gift_86 : decode cX2_gift 86 = .ok (.invokestatic 145, 3) := by decide +kernel
theorem dX2_gift_89 : decode cX2_gift 89 = .ok (.lreturn, 1) := by decide +kernel
theorem dX2_gift_90 : decode cX2_gift 90 = .ok (.iload 4, 2) := by decide +kernel
theorem dX2_gift_92 : decode cX2_gift 92 = .ok (.aload_n 0, 1) := by decide +kernel
theorem dX2_gift_93 : decode cX2_gift 93 = .ok (.getfield 20, 3) := by decide +kernel
theorem dX2_gift_96 : decode cX2_gift 96 = .ok (.iload_n 2, 1) := by decide +kernel
theorem dX2_gift_97 : decode cX2_gift 97 = .ok (.laload, 1) := by decide +kernel
theorem dX2_gift_98 : decode cX2_gift 98 = .ok (.invokestatic 148, 3) := by decide +kernel
theorem dX2_gift_101 : decode cX2_gift 101 = .ok (.lreturn, 1) := by decide +kernel
theorem dX3_init_0 : decode cX3_init 0 = .ok (.aload_n 0, 1) := by decide +kernel
theorem dX3_init_1 : decode cX3_init 1 = .ok (.invokespecial 1, 3) := by decide +kernel
theorem dX3_init_4 : decode cX3_init 4 = .ok (.aload_n 0, 1) := by decide +kernel
theorem dX3_init_5 : decode cX3_init 5 = .ok (.bipush 16, 2) := by decide +kernel
theorem dX3_init_7 : decode cX3_init 7 = .ok (.newarray .int, 2) := by decide +kernel
theorem dX3_init_9 : decode cX3_init 9 = .ok (.putfield 7, 3) := by decide +kernel
theorem dX3_init_12 : decode cX3_init 12 = .ok (.aload_n 0, 1) := by decide +kernel
theorem dX3_init_13 : decode cX3_init 13 = .ok (.bipush 16, 2) := by decide +kernel
theorem dX3_init_15 : decode cX3_init 15 = .ok (.newarray .long, 2) := by decide +kernel
theorem dX3_init_17 : decode cX3_init 17 = .ok (.putfield 13, 3) := by decide +kernel
theorem dX3_init_20 : decode cX3_init 20 = .ok (.aload_n 0, 1) := by decide +kernel
theorem dX3_init_21 : decode cX3_init 21 = .ok (.bipush 16, 2) := by decide +kernel
theorem dX3_init_23 : decode cX3_init 23 = .ok (.newarray .long, 2) := by decide +kernel
theorem dX3_init_25 : decode cX3_init 25 = .ok (.putfield 17, 3) := by decide +kernel
theorem dX3_init_28 : decode cX3_init 28 = .ok (.aload_n 0, 1) := by decide +kernel
theorem dX3_init_29 : decode cX3_init 29 = .ok (.bipush 16, 2) := by decide +kernel
theorem dX3_init_31 : decode cX3_init 31 = .ok (.newarray .long, 2) := by decide +kernel
theorem dX3_init_33 : decode cX3_init 33 = .ok (.putfield 20, 3) := by decide +kernel
theorem dX3_init_36 : decode cX3_init 36 = .ok (.aload_n 0, 1) := by decide +kernel
theorem dX3_init_37 : decode cX3_init 37 = .ok (.bipush 24, 2) := by decide +kernel
theorem dX3_init_39 : decode cX3_init 39 = .ok (.newarray .int, 2) := by decide +kernel
theorem dX3_init_41 : decode cX3_init 41 = .ok (.putfield 23, 3) := by decide +kernel
theorem dX3_init_44 : decode cX3_init 44 = .ok (.aload_n 0, 1) := by decide +kernel
theorem dX3_init_45 : decode cX3_init 45 = .ok (.bipush 24, 2) := by decide +kernel
theorem dX3_init_47 : decode cX3_init 47 = .ok (.newarray .int, 2) := by decide +kernel
theorem dX3_init_49 : decode cX3_init 49 = .ok (.putfield 26, 3) := by decide +kernel
theorem dX3_init_52 : decode cX3_init 52 = .ok (.aload_n 0, 1) := by decide +kernel
theorem dX3_init_53 : decode cX3_init 53 = .ok (.bipush 24, 2) := by decide +kernel
theorem dX3_init_55 : decode cX3_init 55 = .ok (.newarray .int, 2) := by decide +kernel
theorem dX3_init_57 : decode cX3_init 57 = .ok (.putfield 29, 3) := by decide +kernel
theorem dX3_init_60 : decode cX3_init 60 = .ok (.aload_n 0, 1) := by decide +kernel
theorem dX3_init_61 : decode cX3_init 61 = .ok (.bipush 24, 2) := by decide +kernel
theorem dX3_init_63 : decode cX3_init 63 = .ok (.newarray .boolean, 2) := by decide +kernel
theorem dX3_init_65 : decode cX3_init 65 = .ok (.putfield 32, 3) := by decide +kernel
theorem dX3_init_68 : decode cX3_init 68 = .ok (.aload_n 0, 1) := by decide +kernel
theorem dX3_init_69 : decode cX3_init 69 = .ok (.bipush 96, 2) := by decide +kernel
theorem dX3_init_71 : decode cX3_init 71 = .ok (.newarray .long, 2) := by decide +kernel
theorem dX3_init_73 : decode cX3_init 73 = .ok (.putfield 36, 3) := by decide +kernel
theorem dX3_init_76 : decode cX3_init 76 = .ok (.aload_n 0, 1) := by decide +kernel
theorem dX3_init_77 : decode cX3_init 77 = .ok (.bipush 16, 2) := by decide +kernel
theorem dX3_init_79 : decode cX3_init 79 = .ok (.newarray .long, 2) := by decide +kernel
theorem dX3_init_81 : decode cX3_init 81 = .ok (.putfield 39, 3) := by decide +kernel
theorem dX3_init_84 : decode cX3_init 84 = .ok (.aload_n 0, 1) := by decide +kernel
theorem dX3_init_85 : decode cX3_init 85 = .ok (.bipush 6, 2) := by decide +kernel
theorem dX3_init_87 : decode cX3_init 87 = .ok (.newarray .int, 2) := by decide +kernel
theorem dX3_init_89 : decode cX3_init 89 = .ok (.putfield 42, 3) := by decide +kernel
theorem dX3_init_92 : decode cX3_init 92 = .ok (.aload_n 0, 1) := by decide +kernel
theorem dX3_init_93 : decode cX3_init 93 = .ok (.bipush 26, 2) := by decide +kernel
theorem dX3_init_95 : decode cX3_init 95 = .ok (.newarray .int, 2) := by decide +kernel
theorem dX3_init_97 : decode cX3_init 97 = .ok (.putfield 45, 3) := by decide +kernel
theorem dX3_init_100 : decode cX3_init 100 = .ok (.aload_n 0, 1) := by decide +kernel
theorem dX3_init_101 : decode cX3_init 101 = .ok (.bipush 26, 2) := by decide +kernel
theorem dX3_init_103 : decode cX3_init 103 = .ok (.newarray .int, 2) := by decide +kernel
theorem dX3_init_105 : decode cX3_init 105 = .ok (.putfield 48, 3) := by decide +kernel
theorem dX3_init_108 : decode cX3_init 108 = .ok (.return_, 1) := by decide +kernel
theorem dX3_isDial_0 : decode cX3_isDial 0 = .ok (.iload_n 1, 1) := by decide +kernel
theorem dX3_isDial_1 : decode cX3_isDial 1 = .ok (.ifCond .lt 15, 3) := by decide +kernel
theorem dX3_isDial_4 : decode cX3_isDial 4 = .ok (.iload_n 1, 1) := by decide +kernel
theorem dX3_isDial_5 : decode cX3_isDial 5 = .ok (.aload_n 0, 1) := by decide +kernel
theorem dX3_isDial_6 : decode cX3_isDial 6 = .ok (.getfield 51, 3) := by decide +kernel
theorem dX3_isDial_9 : decode cX3_isDial 9 = .ok (.if_icmp .ge 7, 3) := by decide +kernel
theorem dX3_isDial_12 : decode cX3_isDial 12 = .ok (.iconst 1, 1) := by decide +kernel
theorem dX3_isDial_13 : decode cX3_isDial 13 = .ok (.goto 4, 3) := by decide +kernel
theorem dX3_isDial_16 : decode cX3_isDial 16 = .ok (.iconst 0, 1) := by decide +kernel
theorem dX3_isDial_17 : decode cX3_isDial 17 = .ok (.ireturn, 1) := by decide +kernel
theorem dX3_isReal_0 : decode cX3_isReal 0 = .ok (.iload_n 1, 1) := by decide +kernel
theorem dX3_isReal_1 : decode cX3_isReal 1 = .ok (.iconst 1, 1) := by decide +kernel
theorem dX3_isReal_2 : decode cX3_isReal 2 = .ok (.if_icmp .le 7, 3) := by decide +kernel
theorem dX3_isReal_5 : decode cX3_isReal 5 = .ok (.iconst 1, 1) := by decide +kernel
theorem dX3_isReal_6 : decode cX3_isReal 6 = .ok (.goto 4, 3) := by decide +kernel
theorem dX3_isReal_9 : decode cX3_isReal 9 = .ok (.iconst 0, 1) := by decide +kernel
theorem dX3_isReal_10 : decode cX3_isReal 10 = .ok (.ireturn, 1) := by decide +kernel
theorem dX3_refused_0 : decode cX3_refused 0 = .ok (.aload_n 0, 1) := by decide +kernel
theorem dX3_refused_1 : decode cX3_refused 1 = .ok (.iload_n 1, 1) := by decide +kernel
theorem dX3_refused_2 : decode cX3_refused 2 = .ok (.putfield 55, 3) := by decide +kernel
theorem dX3_refused_5 : decode cX3_refused 5 = .ok (.iconst (-1), 1) := by decide +kernel
theorem dX3_refused_6 : decode cX3_refused 6 = .ok (.ireturn, 1) := by decide +kernel
theorem dX3_isInt_0 : decode cX3_isInt 0 = .ok (.lload_n 1, 1) := by decide +kernel
theorem dX3_isInt_1 : decode cX3_isInt 1 = .ok (.ldc2_w 58, 3) := by decide +kernel
theorem dX3_isInt_4 : decode cX3_isInt 4 = .ok (.lcmp, 1) := by decide +kernel
theorem dX3_isInt_5 : decode cX3_isInt 5 = .ok (.ifCond .lt 15, 3) := by decide +kernel
theorem dX3_isInt_8 : decode cX3_isInt 8 = .ok (.lload_n 1, 1) := by decide +kernel
theorem dX3_isInt_9 : decode cX3_isInt 9 = .ok (.ldc2_w 60, 3) := by decide +kernel
theorem dX3_isInt_12 : decode cX3_isInt 12 = .ok (.lcmp, 1) := by decide +kernel
theorem dX3_isInt_13 : decode cX3_isInt 13 = .ok (.ifCond .gt 7, 3) := by decide +kernel
theorem dX3_isInt_16 : decode cX3_isInt 16 = .ok (.iconst 1, 1) := by decide +kernel
theorem dX3_isInt_17 : decode cX3_isInt 17 = .ok (.goto 4, 3) := by decide +kernel
theorem dX3_isInt_20 : decode cX3_isInt 20 = .ok (.iconst 0, 1) := by decide +kernel
theorem dX3_isInt_21 : decode cX3_isInt 21 = .ok (.ireturn, 1) := by decide +kernel
set_option maxRecDepth 20000 in
theorem ggX3_isNumber_X3_isInt : GoodIn wsX3_isNumber wsX3_isInt := goodIn_r _ [9, 10, 3] (by decide +kernel) (by decide +kernel)
set_option maxRecDepth 20000 in
theorem gX3_isNumber_X3_isInt : GoodIn wsX3_isNumber (wsV RX3 66 RX3 yX3_isInt wsX3_isInt) := goodIn_app (goodIn_of _ (by decide +kernel)) ggX3_isNumber_X3_isInt
theorem dX3_isNumber_0 : decode cX3_isNumber 0 = .ok (.iload_n 1, 1) := by decide +kernel
theorem dX3_isNumber_1 : decode cX3_isNumber 1 = .ok (.iconst 1, 1) := by decide +kernel
theorem dX3_isNumber_2 : decode cX3_isNumber 2 = .ok (.if_icmp .ne 5, 3) := by decide +kernel
theorem dX3_isNumber_5 : decode cX3_isNumber 5 = .ok (.iconst 1, 1) := by decide +kernel
theorem dX3_isNumber_6 : decode cX3_isNumber 6 = .ok (.ireturn, 1) := by decide +kernel
theorem dX3_isNumber_7 : decode cX3_isNumber 7 = .ok (.iload_n 1, 1) := by decide +kernel
theorem dX3_isNumber_8 : decode cX3_isNumber 8 = .ok (.iconst 3, 1) := by decide +kernel
theorem dX3_isNumber_9 : decode cX3_isNumber 9 = .ok (.if_icmp .ne 21, 3) := by decide +kernel
theorem dX3_isNumber_12 : decode cX3_isNumber 12 = .ok (.lload_n 2, 1) := by decide +kernel
theorem dX3_isNumber_13 : decode cX3_isNumber 13 = .ok (.ldc2_w 62, 3) := by decide +kernel
theorem dX3_isNumber_16 : decode cX3_isNumber 16 = .ok (.land, 1) := by decide +kernel
theorem dX3_isNumber_17 : decode cX3_isNumber 17 = .ok (.ldc2_w 64, 3) := by decide +kernel
theorem dX3_isNumber_20 : decode cX3_isNumber 20 = .ok (.lcmp, 1) := by decide +kernel
theorem dX3_isNumber_21 : decode cX3_isNumber 21 = .ok (.ifCond .gt 7, 3) := by decide +kernel
theorem dX3_isNumber_24 : decode cX3_isNumber 24 = .ok (.iconst 1, 1) := by decide +kernel
theorem dX3_isNumber_25 : decode cX3_isNumber 25 = .ok (.goto 4, 3) := by decide +kernel
theorem dX3_isNumber_28 : decode cX3_isNumber 28 = .ok (.iconst 0, 1) := by decide +kernel
theorem dX3_isNumber_29 : decode cX3_isNumber 29 = .ok (.ireturn, 1) := by decide +kernel
theorem dX3_isNumber_30 : decode cX3_isNumber 30 = .ok (.aload_n 0, 1) := by decide +kernel
theorem dX3_isNumber_31 : decode cX3_isNumber 31 = .ok (.lload_n 2, 1) := by decide +kernel
theorem dX3_isNumber_32 : decode cX3_isNumber 32 = .ok (.invokevirtual 66, 3) := by decide +kernel
theorem dX3_isNumber_35 : decode cX3_isNumber 35 = .ok (.ifCond .eq 23, 3) := by decide +kernel
theorem dX3_isNumber_38 : decode cX3_isNumber 38 = .ok (.iload_n 1, 1) := by decide +kernel
theorem dX3_isNumber_39 : decode cX3_isNumber 39 = .ok (.ifCond .eq 15, 3) := by decide +kernel
theorem dX3_isNumber_42 : decode cX3_isNumber 42 = .ok (.lload_n 2, 1) := by decide +kernel
theorem dX3_isNumber_43 : decode cX3_isNumber 43 = .ok (.ldc2_w 60, 3) := by decide +kernel
theorem dX3_isNumber_46 : decode cX3_isNumber 46 = .ok (.land, 1) := by decide +kernel
theorem dX3_isNumber_47 : decode cX3_isNumber 47 = .ok (.ldc2_w 70, 3) := by decide +kernel
theorem dX3_isNumber_50 : decode cX3_isNumber 50 = .ok (.lcmp, 1) := by decide +kernel
theorem dX3_isNumber_51 : decode cX3_isNumber 51 = .ok (.ifCond .gt 7, 3) := by decide +kernel
theorem dX3_isNumber_54 : decode cX3_isNumber 54 = .ok (.iconst 1, 1) := by decide +kernel
theorem dX3_isNumber_55 : decode cX3_isNumber 55 = .ok (.goto 4, 3) := by decide +kernel
theorem dX3_isNumber_58 : decode cX3_isNumber 58 = .ok (.iconst 0, 1) := by decide +kernel
theorem dX3_isNumber_59 : decode cX3_isNumber 59 = .ok (.ireturn, 1) := by decide +kernel
set_option maxRecDepth 20000 in
theorem ggX3_rank_X3_isReal : GoodIn wsX3_rank wsX3_isReal := goodIn_r _ [7] (by decide +kernel) (by decide +kernel)
set_option maxRecDepth 20000 in
theorem gX3_rank_X3_isReal : GoodIn wsX3_rank (wsV RX3 72 RX3 yX3_isReal wsX3_isReal) := goodIn_app (goodIn_of _ (by decide +kernel)) ggX3_rank_X3_isReal
theorem dX3_rank_0 : decode cX3_rank 0 = .ok (.aload_n 0, 1) := by decide +kernel
theorem dX3_rank_1 : decode cX3_rank 1 = .ok (.iload_n 1, 1) := by decide +kernel
theorem dX3_rank_2 : decode cX3_rank 2 = .ok (.invokevirtual 72, 3) := by decide +kernel
theorem dX3_rank_5 : decode cX3_rank 5 = .ok (.ifCond .eq 9, 3) := by decide +kernel
theorem dX3_rank_8 : decode cX3_rank 8 = .ok (.lload_n 2, 1) := by decide +kernel
theorem dX3_rank_9 : decode cX3_rank 9 = .ok (.lconst 0, 1) := by decide +kernel
theorem dX3_rank_10 : decode cX3_rank 10 = .ok (.lcmp, 1) := by decide +kernel
theorem dX3_rank_11 : decode cX3_rank 11 = .ok (.ifCond .lt 5, 3) := by decide +kernel
theorem dX3_rank_14 : decode cX3_rank 14 = .ok (.lload_n 2, 1) := by decide +kernel
theorem dX3_rank_15 : decode cX3_rank 15 = .ok (.lreturn, 1) := by decide +kernel
theorem dX3_rank_16 : decode cX3_rank 16 = .ok (.iload_n 1, 1) := by decide +kernel
theorem dX3_rank_17 : decode cX3_rank 17 = .ok (.iconst 2, 1) := by decide +kernel
theorem dX3_rank_18 : decode cX3_rank 18 = .ok (.if_icmp .ne 11, 3) := by decide +kernel
theorem dX3_rank_21 : decode cX3_rank 21 = .ok (.lload_n 2, 1) := by decide +kernel
theorem dX3_rank_22 : decode cX3_rank 22 = .ok (.ldc2_w 60, 3) := by decide +kernel
theorem dX3_rank_25 : decode cX3_rank 25 = .ok (.lxor, 1) := by decide +kernel
theorem dX3_rank_26 : decode cX3_rank 26 = .ok (.goto 8, 3) := by decide +kernel
theorem dX3_rank_29 : decode cX3_rank 29 = .ok (.lload_n 2, 1) := by decide +kernel
theorem dX3_rank_30 : decode cX3_rank 30 = .ok (.ldc2_w 62, 3) := by decide +kernel
theorem dX3_rank_33 : decode cX3_rank 33 = .ok (.lxor, 1) := by decide +kernel
theorem dX3_rank_34 : decode cX3_rank 34 = .ok (.lreturn, 1) := by decide +kernel
set_option maxRecDepth 20000 in
theorem ggX3_isAbove_X3_rank : GoodIn wsX3_isAbove wsX3_rank := goodIn_r _ [5, 6, 7, 8, 9, 10, 4, 11] (by decide +kernel) (by decide +kernel)
set_option maxRecDepth 20000 in
theorem gX3_isAbove_X3_rank : GoodIn wsX3_isAbove (wsV RX3 76 RX3 yX3_rank wsX3_rank) := goodIn_app (goodIn_of _ (by decide +kernel)) ggX3_isAbove_X3_rank
theorem dX3_isAbove_0 : decode cX3_isAbove 0 = .ok (.aload_n 0, 1) := by decide +kernel
theorem dX3_isAbove_1 : decode cX3_isAbove 1 = .ok (.iload_n 1, 1) := by decide +kernel
theorem dX3_isAbove_2 : decode cX3_isAbove 2 = .ok (.lload_n 2, 1) := by decide +kernel
theorem dX3_isAbove_3 : decode cX3_isAbove 3 = .ok (.invokevirtual 76, 3) := by decide +kernel
theorem dX3_isAbove_6 : decode cX3_isAbove 6 = .ok (.aload_n 0, 1) := by decide +kernel
theorem dX3_isAbove_7 : decode cX3_isAbove 7 = .ok (.iload_n 1, 1) := by decide +kernel
theorem dX3_isAbove_8 : decode cX3_isAbove 8 = .ok (.lload 4, 2) := by decide +kernel
theorem dX3_isAbove_10 : decode cX3_isAbove 10 = .ok (.invokevirtual 76, 3) := by decide +kernel
theorem dX3_isAbove_13 : decode cX3_isAbove 13 = .ok (.lcmp, 1) := by decide +kernel
theorem dX3_isAbove_14 : decode cX3_isAbove 14 = .ok (.ifCond .le 7, 3) := by decide +kernel
theorem dX3_isAbove_17 : decode cX3_isAbove 17 = .ok (.iconst 1, 1) := by decide +kernel
theorem dX3_isAbove_18 : decode cX3_isAbove 18 = .ok (.goto 4, 3) := by decide +kernel
theorem dX3_isAbove_21 : decode cX3_isAbove 21 = .ok (.iconst 0, 1) := by decide +kernel
theorem dX3_isAbove_22 : decode cX3_isAbove 22 = .ok (.ireturn, 1) := by decide +kernel
set_option maxRecDepth 20000 in
theorem ggX3_greater_X3_isAbove : GoodIn wsX3_greater wsX3_isAbove := goodIn_r _ [5, 6, 7, 8, 4, 9, 10, 11, 12, 13, 14, 15] (by decide +kernel) (by decide +kernel)
set_option maxRecDepth 20000 in
theorem gX3_greater_X3_isAbove : GoodIn wsX3_greater (wsV RX3 80 RX3 yX3_isAbove wsX3_isAbove) := goodIn_app (goodIn_of _ (by decide +kernel)) ggX3_greater_X3_isAbove
theorem dX3_greater_0 : decode cX3_greater 0 = .ok (.aload_n 0, 1) := by decide +kernel
theorem dX3_greater_1 : decode cX3_greater 1 = .ok (.iload_n 1, 1) := by decide +kernel
theorem dX3_greater_2 : decode cX3_greater 2 = .ok (.lload 4, 2) := by decide +kernel
theorem dX3_greater_4 : decode cX3_greater 4 = .ok (.lload_n 2, 1) := by decide +kernel
theorem dX3_greater_5 : decode cX3_greater 5 = .ok (.invokevirtual 80, 3) := by decide +kernel
theorem dX3_greater_8 : decode cX3_greater 8 = .ok (.ifCond .eq 8, 3) := by decide +kernel
theorem dX3_greater_11 : decode cX3_greater 11 = .ok (.lload 4, 2) := by decide +kernel
theorem dX3_greater_13 : decode cX3_greater 13 = .ok (.goto 4, 3) := by decide +kernel
theorem dX3_greater_16 : decode cX3_greater 16 = .ok (.lload_n 2, 1) := by decide +kernel
theorem dX3_greater_17 : decode cX3_greater 17 = .ok (.lreturn, 1) := by decide +kernel
set_option maxRecDepth 20000 in
theorem ggX3_less_X3_isAbove : GoodIn wsX3_less wsX3_isAbove := goodIn_r _ [5, 6, 7, 8, 4, 9, 10, 11, 12, 13, 14, 15] (by decide +kernel) (by decide +kernel)
set_option maxRecDepth 20000 in
theorem gX3_less_X3_isAbove : GoodIn wsX3_less (wsV RX3 80 RX3 yX3_isAbove wsX3_isAbove) := goodIn_app (goodIn_of _ (by decide +kernel)) ggX3_less_X3_isAbove
theorem dX3_less_0 : decode cX3_less 0 = .ok (.aload_n 0, 1) := by decide +kernel
theorem dX3_less_1 : decode cX3_less 1 = .ok (.iload_n 1, 1) := by decide +kernel
theorem dX3_less_2 : decode cX3_less 2 = .ok (.lload_n 2, 1) := by decide +kernel
theorem dX3_less_3 : decode cX3_less 3 = .ok (.lload 4, 2) := by decide +kernel
theorem dX3_less_5 : decode cX3_less 5 = .ok (.invokevirtual 80, 3) := by decide +kernel
theorem dX3_less_8 : decode cX3_less 8 = .ok (.ifCond .eq 8, 3) := by decide +kernel
theorem dX3_less_11 : decode cX3_less 11 = .ok (.lload 4, 2) := by decide +kernel
theorem dX3_less_13 : decode cX3_less 13 = .ok (.goto 4, 3) := by decide +kernel
theorem dX3_less_16 : decode cX3_less 16 = .ok (.lload_n 2, 1) := by decide +kernel
theorem dX3_less_17 : decode cX3_less 17 = .ok (.lreturn, 1) := by decide +kernel
theorem dX3_plain_0 : decode cX3_plain 0 = .ok (.iload_n 1, 1) := by decide +kernel
theorem dX3_plain_1 : decode cX3_plain 1 = .ok (.iconst 2, 1) := by decide +kernel
theorem dX3_plain_2 : decode cX3_plain 2 = .ok (.if_icmp .ne 11, 3) := by decide +kernel
theorem dX3_plain_5 : decode cX3_plain 5 = .ok (.lload_n 2, 1) := by decide +kernel
theorem dX3_plain_6 : decode cX3_plain 6 = .ok (.ldc2_w 60, 3) := by decide +kernel
theorem dX3_plain_9 : decode cX3_plain 9 = .ok (.land, 1) := by decide +kernel
theorem dX3_plain_10 : decode cX3_plain 10 = .ok (.goto 8, 3) := by decide +kernel
theorem dX3_plain_13 : decode cX3_plain 13 = .ok (.lload_n 2, 1) := by decide +kernel
theorem dX3_plain_14 : decode cX3_plain 14 = .ok (.ldc2_w 62, 3) := by decide +kernel
theorem dX3_plain_17 : decode cX3_plain 17 = .ok (.land, 1) := by decide +kernel
theorem dX3_plain_18 : decode cX3_plain 18 = .ok (.lreturn, 1) := by decide +kernel
theorem dX3_signed_0 : decode cX3_signed 0 = .ok (.lload 4, 2) := by decide +kernel
theorem dX3_signed_2 : decode cX3_signed 2 = .ok (.lconst 0, 1) := by decide +kernel
theorem dX3_signed_3 : decode cX3_signed 3 = .ok (.lcmp, 1) := by decide +kernel
theorem dX3_signed_4 : decode cX3_signed 4 = .ok (.ifCond .lt 5, 3) := by decide +kernel
theorem dX3_signed_7 : decode cX3_signed 7 = .ok (.lload_n 2, 1) := by decide +kernel
theorem dX3_signed_8 : decode cX3_signed 8 = .ok (.lreturn, 1) := by decide +kernel
theorem dX3_signed_9 : decode cX3_signed 9 = .ok (.iload_n 1, 1) := by decide +kernel
theorem dX3_signed_10 : decode cX3_signed 10 = .ok (.iconst 2, 1) := by decide +kernel
theorem dX3_signed_11 : decode cX3_signed 11 = .ok (.if_icmp .ne 11, 3) := by decide +kernel
theorem dX3_signed_14 : decode cX3_signed 14 = .ok (.lload_n 2, 1) := by decide +kernel
theorem dX3_signed_15 : decode cX3_signed 15 = .ok (.ldc2_w 84, 3) := by decide +kernel
theorem dX3_signed_18 : decode cX3_signed 18 = .ok (.lsub, 1) := by decide +kernel
theorem dX3_signed_19 : decode cX3_signed 19 = .ok (.goto 8, 3) := by decide +kernel
theorem dX3_signed_22 : decode cX3_signed 22 = .ok (.lload_n 2, 1) := by decide +kernel
theorem dX3_signed_23 : decode cX3_signed 23 = .ok (.ldc2_w 86, 3) := by decide +kernel
theorem dX3_signed_26 : decode cX3_signed 26 = .ok (.lor, 1) := by decide +kernel
theorem dX3_signed_27 : decode cX3_signed 27 = .ok (.lreturn, 1) := by decide +kernel
set_option maxRecDepth 20000 in
theorem ggX3_sizeOf_X3_isReal : GoodIn wsX3_sizeOf wsX3_isReal := goodIn_r _ [7] (by decide +kernel) (by decide +kernel)
set_option maxRecDepth 20000 in
theorem gX3_sizeOf_X3_isReal : GoodIn wsX3_sizeOf (wsV RX3 72 RX3 yX3_isReal wsX3_isReal) := goodIn_app (goodIn_of _ (by decide +kernel)) ggX3_sizeOf_X3_isReal
set_option maxRecDepth 20000 in
theorem ggX3_sizeOf_X3_plain : GoodIn wsX3_sizeOf wsX3_plain := goodIn_r _ [11, 12, 13] (by decide +kernel) (by decide +kernel)
set_option maxRecDepth 20000 in
theorem gX3_sizeOf_X3_plain : GoodIn wsX3_sizeOf (wsV RX3 88 RX3 yX3_plain wsX3_plain) := goodIn_app (goodIn_of _ (by decide +kernel)) ggX3_sizeOf_X3_plain
theorem dX3_sizeOf_0 : decode cX3_sizeOf 0 = .ok (.aload_n 0, 1) := by decide +kernel
theorem dX3_sizeOf_1 : decode cX3_sizeOf 1 = .ok (.iload_n 1, 1) := by decide +kernel
theorem dX3_sizeOf_2 : decode cX3_sizeOf 2 = .ok (.invokevirtual 72, 3) := by decide +kernel
theorem dX3_sizeOf_5 : decode cX3_sizeOf 5 = .ok (.ifCond .eq 10, 3) := by decide +kernel
theorem dX3_sizeOf_8 : decode cX3_sizeOf 8 = .ok (.aload_n 0, 1) := by decide +kernel
theorem dX3_sizeOf_9 : decode cX3_sizeOf 9 = .ok (.iload_n 1, 1) := by decide +kernel
theorem dX3_sizeOf_10 : decode cX3_sizeOf 10 = .ok (.lload_n 2, 1) := by decide +kernel
theorem dX3_sizeOf_11 : decode cX3_sizeOf 11 = .ok (.invokevirtual 88, 3) := by decide +kernel
theorem dX3_sizeOf_14 : decode cX3_sizeOf 14 = .ok (.lreturn, 1) := by decide +kernel
theorem dX3_sizeOf_15 : decode cX3_sizeOf 15 = .ok (.lload_n 2, 1) := by decide +kernel
theorem dX3_sizeOf_16 : decode cX3_sizeOf 16 = .ok (.lconst 0, 1) := by decide +kernel
theorem dX3_sizeOf_17 : decode cX3_sizeOf 17 = .ok (.lcmp, 1) := by decide +kernel
theorem dX3_sizeOf_18 : decode cX3_sizeOf 18 = .ok (.ifCond .ge 23, 3) := by decide +kernel
theorem dX3_sizeOf_21 : decode cX3_sizeOf 21 = .ok (.iload_n 1, 1) := by decide +kernel
theorem dX3_sizeOf_22 : decode cX3_sizeOf 22 = .ok (.ifCond .ne 11, 3) := by decide +kernel
theorem dX3_sizeOf_25 : decode cX3_sizeOf 25 = .ok (.lload_n 2, 1) := by decide +kernel
theorem dX3_sizeOf_26 : decode cX3_sizeOf 26 = .ok (.ldc2_w 58, 3) := by decide +kernel
theorem dX3_sizeOf_29 : decode cX3_sizeOf 29 = .ok (.lcmp, 1) := by decide +kernel
theorem dX3_sizeOf_30 : decode cX3_sizeOf 30 = .ok (.ifCond .eq 11, 3) := by decide +kernel
theorem dX3_sizeOf_33 : decode cX3_sizeOf 33 = .ok (.lload_n 2, 1) := by decide +kernel
theorem dX3_sizeOf_34 : decode cX3_sizeOf 34 = .ok (.ldc2_w 86, 3) := by decide +kernel
theorem dX3_sizeOf_37 : decode cX3_sizeOf 37 = .ok (.lcmp, 1) := by decide +kernel
theorem dX3_sizeOf_38 : decode cX3_sizeOf 38 = .ok (.ifCond .ne 5, 3) := by decide +kernel
theorem dX3_sizeOf_41 : decode cX3_sizeOf 41 = .ok (.lload_n 2, 1) := by decide +kernel
theorem dX3_sizeOf_42 : decode cX3_sizeOf 42 = .ok (.lreturn, 1) := by decide +kernel
theorem dX3_sizeOf_43 : decode cX3_sizeOf 43 = .ok (.lload_n 2, 1) := by decide +kernel
theorem dX3_sizeOf_44 : decode cX3_sizeOf 44 = .ok (.lneg, 1) := by decide +kernel
theorem dX3_sizeOf_45 : decode cX3_sizeOf 45 = .ok (.lreturn, 1) := by decide +kernel
theorem dX3_one_0 : decode cX3_one 0 = .ok (.iload_n 1, 1) := by decide +kernel
theorem dX3_one_1 : decode cX3_one 1 = .ok (.iconst 2, 1) := by decide +kernel
theorem dX3_one_2 : decode cX3_one 2 = .ok (.if_icmp .ne 9, 3) := by decide +kernel
theorem dX3_one_5 : decode cX3_one 5 = .ok (.ldc2_w 91, 3) := by decide +kernel
theorem dX3_one_8 : decode cX3_one 8 = .ok (.goto 6, 3) := by decide +kernel
theorem dX3_one_11 : decode cX3_one 11 = .ok (.ldc2_w 93, 3) := by decide +kernel
theorem dX3_one_14 : decode cX3_one 14 = .ok (.lreturn, 1) := by decide +kernel
set_option maxRecDepth 20000 in
theorem ggX3_whole_X3_plain : GoodIn wsX3_whole wsX3_plain := goodIn_r _ [5, 6, 7] (by decide +kernel) (by decide +kernel)
set_option maxRecDepth 20000 in
theorem gX3_whole_X3_plain : GoodIn wsX3_whole (wsV RX3 88 RX3 yX3_plain wsX3_plain) := goodIn_app (goodIn_of _ (by decide +kernel)) ggX3_whole_X3_plain
set_option maxRecDepth 20000 in
theorem ggX3_whole_X3_one : GoodIn wsX3_whole wsX3_one := goodIn_r _ [11, 12, 13] (by decide +kernel) (by decide +kernel)
set_option maxRecDepth 20000 in
theorem gX3_whole_X3_one : GoodIn wsX3_whole (wsV RX3 95 RX3 yX3_one wsX3_one) := goodIn_app (goodIn_of _ (by decide +kernel)) ggX3_whole_X3_one
set_option maxRecDepth 20000 in
theorem ggX3_whole_X3_signed : GoodIn wsX3_whole wsX3_signed := goodIn_r _ [17, 18, 19] (by decide +kernel) (by decide +kernel)
set_option maxRecDepth 20000 in
theorem gX3_whole_X3_signed : GoodIn wsX3_whole (wsV RX3 99 RX3 yX3_signed wsX3_signed) := goodIn_app (goodIn_of _ (by decide +kernel)) ggX3_whole_X3_signed
theorem dX3_whole_0 : decode cX3_whole 0 = .ok (.aload_n 0, 1) := by decide +kernel
theorem dX3_whole_1 : decode cX3_whole 1 = .ok (.iload_n 1, 1) := by decide +kernel
theorem dX3_whole_2 : decode cX3_whole 2 = .ok (.lload_n 2, 1) := by decide +kernel
theorem dX3_whole_3 : decode cX3_whole 3 = .ok (.invokevirtual 88, 3) := by decide +kernel
theorem dX3_whole_6 : decode cX3_whole 6 = .ok (.lstore 5, 2) := by decide +kernel
theorem dX3_whole_8 : decode cX3_whole 8 = .ok (.iload_n 1, 1) := by decide +kernel
theorem dX3_whole_9 : decode cX3_whole 9 = .ok (.iconst 2, 1) := by decide +kernel
theorem dX3_whole_10 : decode cX3_whole 10 = .ok (.if_icmp .ne 8, 3) := by decide +kernel
theorem dX3_whole_13 : decode cX3_whole 13 = .ok (.bipush 23, 2) := by decide +kernel
theorem dX3_whole_15 : decode cX3_whole 15 = .ok (.goto 5, 3) := by decide +kernel
theorem dX3_whole_18 : decode cX3_whole 18 = .ok (.bipush 52, 2) := by decide +kernel
theorem dX3_whole_20 : decode cX3_whole 20 = .ok (.istore 7, 2) := by decide +kernel
theorem dX3_whole_22 : decode cX3_whole 22 = .ok (.lload 5, 2) := by decide +kernel
theorem dX3_whole_24 : decode cX3_whole 24 = .ok (.iload 7, 2) := by decide +kernel
theorem dX3_whole_26 : decode cX3_whole 26 = .ok (.lshr, 1) := by decide +kernel
theorem dX3_whole_27 : decode cX3_whole 27 = .ok (.l2i, 1) := by decide +kernel
theorem dX3_whole_28 : decode cX3_whole 28 = .ok (.iload_n 1, 1) := by decide +kernel
theorem dX3_whole_29 : decode cX3_whole 29 = .ok (.iconst 2, 1) := by decide +kernel
theorem dX3_whole_30 : decode cX3_whole 30 = .ok (.if_icmp .ne 8, 3) := by decide +kernel
theorem dX3_whole_33 : decode cX3_whole 33 = .ok (.bipush 127, 2) := by decide +kernel
theorem dX3_whole_35 : decode cX3_whole 35 = .ok (.goto 6, 3) := by decide +kernel
theorem dX3_whole_38 : decode cX3_whole 38 = .ok (.sipush 1023, 3) := by decide +kernel
theorem dX3_whole_41 : decode cX3_whole 41 = .ok (.isub, 1) := by decide +kernel
theorem dX3_whole_42 : decode cX3_whole 42 = .ok (.istore 8, 2) := by decide +kernel
theorem dX3_whole_44 : decode cX3_whole 44 = .ok (.lload 5, 2) := by decide +kernel
theorem dX3_whole_46 : decode cX3_whole 46 = .ok (.lconst 0, 1) := by decide +kernel
theorem dX3_whole_47 : decode cX3_whole 47 = .ok (.lcmp, 1) := by decide +kernel
theorem dX3_whole_48 : decode cX3_whole 48 = .ok (.ifCond .eq 10, 3) := by decide +kernel
theorem dX3_whole_51 : decode cX3_whole 51 = .ok (.iload 8, 2) := by decide +kernel
theorem dX3_whole_53 : decode cX3_whole 53 = .ok (.iload 7, 2) := by decide +kernel
theorem dX3_whole_55 : decode cX3_whole 55 = .ok (.if_icmp .lt 5, 3) := by decide +kernel
theorem dX3_whole_58 : decode cX3_whole 58 = .ok (.lload_n 2, 1) := by decide +kernel
theorem dX3_whole_59 : decode cX3_whole 59 = .ok (.lreturn, 1) := by decide +kernel
theorem dX3_whole_60 : decode cX3_whole 60 = .ok (.iload 4, 2) := by decide +kernel
theorem dX3_whole_62 : decode cX3_whole 62 = .ok (.iconst 1, 1) := by decide +kernel
theorem dX3_whole_63 : decode cX3_whole 63 = .ok (.if_icmp .ne 17, 3) := by decide +kernel
theorem dX3_whole_66 : decode cX3_whole 66 = .ok (.lload_n 2, 1) := by decide +kernel
theorem dX3_whole_67 : decode cX3_whole 67 = .ok (.lconst 0, 1) := by decide +kernel
theorem dX3_whole_68 : decode cX3_whole 68 = .ok (.lcmp, 1) := by decide +kernel
theorem dX3_whole_69 : decode cX3_whole 69 = .ok (.ifCond .ge 7, 3) := by decide +kernel
theorem dX3_whole_72 : decode cX3_whole 72 = .ok (.iconst 1, 1) := by decide +kernel
theorem dX3_whole_73 : decode cX3_whole 73 = .ok (.goto 18, 3) := by decide +kernel
theorem dX3_whole_76 : decode cX3_whole 76 = .ok (.iconst 0, 1) := by decide +kernel
theorem dX3_whole_77 : decode cX3_whole 77 = .ok (.goto 14, 3) := by decide +kernel
theorem dX3_whole_80 : decode cX3_whole 80 = .ok (.lload_n 2, 1) := by decide +kernel
theorem dX3_whole_81 : decode cX3_whole 81 = .ok (.lconst 0, 1) := by decide +kernel
theorem dX3_whole_82 : decode cX3_whole 82 = .ok (.lcmp, 1) := by decide +kernel
theorem dX3_whole_83 : decode cX3_whole 83 = .ok (.ifCond .lt 7, 3) := by decide +kernel
theorem dX3_whole_86 : decode cX3_whole 86 = .ok (.iconst 1, 1) := by decide +kernel
theorem dX3_whole_87 : decode cX3_whole 87 = .ok (.goto 4, 3) := by decide +kernel
theorem dX3_whole_90 : decode cX3_whole 90 = .ok (.iconst 0, 1) := by decide +kernel
theorem dX3_whole_91 : decode cX3_whole 91 = .ok (.istore 9, 2) := by decide +kernel
theorem dX3_whole_93 : decode cX3_whole 93 = .ok (.iload 8, 2) := by decide +kernel
theorem dX3_whole_95 : decode cX3_whole 95 = .ok (.ifCond .ge 59, 3) := by decide +kernel
theorem dX3_whole_98 : decode cX3_whole 98 = .ok (.iload 4, 2) := by decide +kernel
theorem dX3_whole_100 : decode cX3_whole 100 = .ok (.iconst 3, 1) := by decide +kernel
theorem dX3_whole_101 : decode cX3_whole 101 = .ok (.if_icmp .ne 32, 3) := by decide +kernel
theorem dX3_whole_104 : decode cX3_whole 104 = .ok (.iload 8, 2) := by decide +kernel
theorem dX3_whole_106 : decode cX3_whole 106 = .ok (.iconst (-1), 1) := by decide +kernel
theorem dX3_whole_107 : decode cX3_whole 107 = .ok (.if_icmp .ne 23, 3) := by decide +kernel
theorem dX3_whole_110 : decode cX3_whole 110 = .ok (.lload 5, 2) := by decide +kernel
theorem dX3_whole_112 : decode cX3_whole 112 = .ok (.aload_n 0, 1) := by decide +kernel
theorem dX3_whole_113 : decode cX3_whole 113 = .ok (.iload_n 1, 1) := by decide +kernel
theorem dX3_whole_114 : decode cX3_whole 114 = .ok (.invokevirtual 95, 3) := by decide +kernel
theorem dX3_whole_117 : decode cX3_whole 117 = .ok (.lconst 1, 1) := by decide +kernel
theorem dX3_whole_118 : decode cX3_whole 118 = .ok (.iload 7, 2) := by decide +kernel
theorem dX3_whole_120 : decode cX3_whole 120 = .ok (.lshl, 1) := by decide +kernel
theorem dX3_whole_121 : decode cX3_whole 121 = .ok (.lsub, 1) := by decide +kernel
theorem dX3_whole_122 : decode cX3_whole 122 = .ok (.lcmp, 1) := by decide +kernel
theorem dX3_whole_123 : decode cX3_whole 123 = .ok (.ifCond .le 7, 3) := by decide +kernel
theorem dX3_whole_126 : decode cX3_whole 126 = .ok (.iconst 1, 1) := by decide +kernel
theorem dX3_whole_127 : decode cX3_whole 127 = .ok (.goto 4, 3) := by decide +kernel
theorem dX3_whole_130 : decode cX3_whole 130 = .ok (.iconst 0, 1) := by decide +kernel
theorem dX3_whole_131 : decode cX3_whole 131 = .ok (.istore 9, 2) := by decide +kernel
theorem dX3_whole_133 : decode cX3_whole 133 = .ok (.aload_n 0, 1) := by decide +kernel
theorem dX3_whole_134 : decode cX3_whole 134 = .ok (.iload_n 1, 1) := by decide +kernel
theorem dX3_whole_135 : decode cX3_whole 135 = .ok (.iload 9, 2) := by decide +kernel
theorem dX3_whole_137 : decode cX3_whole 137 = .ok (.ifCond .eq 11, 3) := by decide +kernel
theorem dX3_whole_140 : decode cX3_whole 140 = .ok (.aload_n 0, 1) := by decide +kernel
theorem dX3_whole_141 : decode cX3_whole 141 = .ok (.iload_n 1, 1) := by decide +kernel
theorem dX3_whole_142 : decode cX3_whole 142 = .ok (.invokevirtual 95, 3) := by decide +kernel
theorem dX3_whole_145 : decode cX3_whole 145 = .ok (.goto 4, 3) := by decide +kernel
theorem dX3_whole_148 : decode cX3_whole 148 = .ok (.lconst 0, 1) := by decide +kernel
theorem dX3_whole_149 : decode cX3_whole 149 = .ok (.lload_n 2, 1) := by decide +kernel
theorem dX3_whole_150 : decode cX3_whole 150 = .ok (.invokevirtual 99, 3) := by decide +kernel
theorem dX3_whole_153 : decode cX3_whole 153 = .ok (.lreturn, 1) := by decide +kernel
theorem dX3_whole_154 : decode cX3_whole 154 = .ok (.iload 7, 2) := by decide +kernel
theorem dX3_whole_156 : decode cX3_whole 156 = .ok (.iload 8, 2) := by decide +kernel
theorem dX3_whole_158 : decode cX3_whole 158 = .ok (.isub, 1) := by decide +kernel
theorem dX3_whole_159 : decode cX3_whole 159 = .ok (.istore 10, 2) := by decide +kernel
theorem dX3_whole_161 : decode cX3_whole 161 = .ok (.lload 5, 2) := by decide +kernel
theorem dX3_whole_163 : decode cX3_whole 163 = .ok (.lconst 1, 1) := by decide +kernel
theorem dX3_whole_164 : decode cX3_whole 164 = .ok (.iload 10, 2) := by decide +kernel
theorem dX3_whole_166 : decode cX3_whole 166 = .ok (.lshl, 1) := by decide +kernel
theorem dX3_whole_167 : decode cX3_whole 167 = .ok (.lconst 1, 1) := by decide +kernel
theorem dX3_whole_168 : decode cX3_whole 168 = .ok (.lsub, 1) := by decide +kernel
theorem dX3_whole_169 : decode cX3_whole 169 = .ok (.land, 1) := by decide +kernel
theorem dX3_whole_170 : decode cX3_whole 170 = .ok (.lstore 11, 2) := by decide +kernel
theorem dX3_whole_172 : decode cX3_whole 172 = .ok (.lload 5, 2) := by decide +kernel
theorem dX3_whole_174 : decode cX3_whole 174 = .ok (.lload 11, 2) := by decide +kernel
theorem dX3_whole_176 : decode cX3_whole 176 = .ok (.lsub, 1) := by decide +kernel
theorem dX3_whole_177 : decode cX3_whole 177 = .ok (.lstore 13, 2) := by decide +kernel
theorem dX3_whole_179 : decode cX3_whole 179 = .ok (.lload 11, 2) := by decide +kernel
theorem dX3_whole_181 : decode cX3_whole 181 = .ok (.lconst 0, 1) := by decide +kernel
theorem dX3_whole_182 : decode cX3_whole 182 = .ok (.lcmp, 1) := by decide +kernel
theorem dX3_whole_183 : decode cX3_whole 183 = .ok (.ifCond .ne 5, 3) := by decide +kernel
theorem dX3_whole_186 : decode cX3_whole 186 = .ok (.lload_n 2, 1) := by decide +kernel
theorem dX3_whole_187 : decode cX3_whole 187 = .ok (.lreturn, 1) := by decide +kernel
theorem dX3_whole_188 : decode cX3_whole 188 = .ok (.iload 4, 2) := by decide +kernel
theorem dX3_whole_190 : decode cX3_whole 190 = .ok (.iconst 3, 1) := by decide +kernel
theorem dX3_whole_191 : decode cX3_whole 191 = .ok (.if_icmp .ne 63, 3) := by decide +kernel
theorem dX3_whole_194 : decode cX3_whole 194 = .ok (.lconst 1, 1) := by decide +kernel
theorem dX3_whole_195 : decode cX3_whole 195 = .ok (.iload 10, 2) := by decide +kernel
theorem dX3_whole_197 : decode cX3_whole 197 = .ok (.iconst 1, 1) := by decide +kernel
theorem dX3_whole_198 : decode cX3_whole 198 = .ok (.isub, 1) := by decide +kernel
theorem dX3_whole_199 : decode cX3_whole 199 = .ok (.lshl, 1) := by decide +kernel
theorem dX3_whole_200 : decode cX3_whole 200 = .ok (.lstore 15, 2) := by decide +kernel
theorem dX3_whole_202 : decode cX3_whole 202 = .ok (.iload 8, 2) := by decide +kernel
theorem dX3_whole_204 : decode cX3_whole 204 = .ok (.ifCond .eq 15, 3) := by decide +kernel
theorem dX3_whole_207 : decode cX3_whole 207 = .ok (.lload 5, 2) := by decide +kernel
theorem dX3_whole_209 : decode cX3_whole 209 = .ok (.iload 10, 2) := by decide +kernel
theorem dX3_whole_211 : decode cX3_whole 211 = .ok (.lshr, 1) := by decide +kernel
theorem dX3_whole_212 : decode cX3_whole 212 = .ok (.lconst 1, 1) := by decide +kernel
theorem dX3_whole_213 : decode cX3_whole 213 = .ok (.land, 1) := by decide +kernel
theorem dX3_whole_214 : decode cX3_whole 214 = .ok (.lconst 1, 1) := by decide +kernel
theorem dX3_whole_215 : decode cX3_whole 215 = .ok (.lcmp, 1) := by decide +kernel
theorem dX3_whole_216 : decode cX3_whole 216 = .ok (.ifCond .ne 7, 3) := by decide +kernel
theorem dX3_whole_219 : decode cX3_whole 219 = .ok (.iconst 1, 1) := by decide +kernel
theorem dX3_whole_220 : decode cX3_whole 220 = .ok (.goto 4, 3) := by decide +kernel
theorem dX3_whole_223 : decode cX3_whole 223 = .ok (.iconst 0, 1) := by decide +kernel
theorem dX3_whole_224 : decode cX3_whole 224 = .ok (.istore 17, 2) := by decide +kernel
theorem dX3_whole_226 : decode cX3_whole 226 = .ok (.lload 11, 2) := by decide +kernel
theorem dX3_whole_228 : decode cX3_whole 228 = .ok (.lload 15, 2) := by decide +kernel
theorem dX3_whole_230 : decode cX3_whole 230 = .ok (.lcmp, 1) := by decide +kernel
theorem dX3_whole_231 : decode cX3_whole 231 = .ok (.ifCond .gt 16, 3) := by decide +kernel
theorem dX3_whole_234 : decode cX3_whole 234 = .ok (.lload 11, 2) := by decide +kernel
theorem dX3_whole_236 : decode cX3_whole 236 = .ok (.lload 15, 2) := by decide +kernel
theorem dX3_whole_238 : decode cX3_whole 238 = .ok (.lcmp, 1) := by decide +kernel
theorem dX3_whole_239 : decode cX3_whole 239 = .ok (.ifCond .ne 12, 3) := by decide +kernel
theorem dX3_whole_242 : decode cX3_whole 242 = .ok (.iload 17, 2) := by decide +kernel
theorem dX3_whole_244 : decode cX3_whole 244 = .ok (.ifCond .eq 7, 3) := by decide +kernel
theorem dX3_whole_247 : decode cX3_whole 247 = .ok (.iconst 1, 1) := by decide +kernel
theorem dX3_whole_248 : decode cX3_whole 248 = .ok (.goto 4, 3) := by decide +kernel
theorem dX3_whole_251 : decode cX3_whole 251 = .ok (.iconst 0, 1) := by decide +kernel
theorem dX3_whole_252 : decode cX3_whole 252 = .ok (.istore 9, 2) := by decide +kernel
theorem dX3_whole_254 : decode cX3_whole 254 = .ok (.aload_n 0, 1) := by decide +kernel
theorem dX3_whole_255 : decode cX3_whole 255 = .ok (.iload_n 1, 1) := by decide +kernel
theorem dX3_whole_256 : decode cX3_whole 256 = .ok (.iload 9, 2) := by decide +kernel
theorem dX3_whole_258 : decode cX3_whole 258 = .ok (.ifCond .eq 13, 3) := by decide +kernel
theorem dX3_whole_261 : decode cX3_whole 261 = .ok (.lload 13, 2) := by decide +kernel
theorem dX3_whole_263 : decode cX3_whole 263 = .ok (.lconst 1, 1) := by decide +kernel
theorem dX3_whole_264 : decode cX3_whole 264 = .ok (.iload 10, 2) := by decide +kernel
theorem dX3_whole_266 : decode cX3_whole 266 = .ok (.lshl, 1) := by decide +kernel
theorem dX3_whole_267 : decode cX3_whole 267 = .ok (.ladd, 1) := by decide +kernel
theorem dX3_whole_268 : decode cX3_whole 268 = .ok (.goto 5, 3) := by decide +kernel
theorem dX3_whole_271 : decode cX3_whole 271 = .ok (.lload 13, 2) := by decide +kernel
theorem dX3_whole_273 : decode cX3_whole 273 = .ok (.lload_n 2, 1) := by decide +kernel
theorem dX3_whole_274 : decode cX3_whole 274 = .ok (.invokevirtual 99, 3) := by decide +kernel
theorem dX3_whole_277 : decode cX3_whole 277 = .ok (.lreturn, 1) := by decide +kernel
set_option maxRecDepth 20000 in
theorem ggX3_turned_X3_sizeOf : GoodIn wsX3_turned wsX3_sizeOf := goodIn_r _ [5, 6, 7, 8, 9, 10, 4, 11, 12, 13, 14, 15, 16, 17] (by decide +kernel) (by decide +kernel)
set_option maxRecDepth 20000 in
theorem gX3_turned_X3_sizeOf : GoodIn wsX3_turned (wsV RX3 103 RX3 yX3_sizeOf wsX3_sizeOf) := goodIn_app (goodIn_of _ (by decide +kernel)) ggX3_turned_X3_sizeOf
set_option maxRecDepth 20000 in
theorem ggX3_turned_X3_whole : GoodIn wsX3_turned wsX3_whole := goodIn_r _ [21, 12, 13, 14, 4, 15, 16, 17, 22, 23, 24, 25, 26, 27, 28, 29, 30, 31, 32, 7] (by decide +kernel) (by decide +kernel)
set_option maxRecDepth 20000 in
theorem gX3_turned_X3_whole : GoodIn wsX3_turned (wsV RX3 106 RX3 yX3_whole wsX3_whole) := goodIn_app (goodIn_of _ (by decide +kernel)) ggX3_turned_X3_whole
set_option maxRecDepth 20000 in
theorem ggX3_turned_X3_plain : GoodIn wsX3_turned wsX3_plain := goodIn_r _ [15, 16, 17] (by decide +kernel) (by decide +kernel)
set_option maxRecDepth 20000 in
theorem gX3_turned_X3_plain : GoodIn wsX3_turned (wsV RX3 88 RX3 yX3_plain wsX3_plain) := goodIn_app (goodIn_of _ (by decide +kernel)) ggX3_turned_X3_plain
set_option maxRecDepth 20000 in
theorem ggX3_turned_X3_one : GoodIn wsX3_turned wsX3_one := goodIn_r _ [25, 26, 27] (by decide +kernel) (by decide +kernel)
set_option maxRecDepth 20000 in
theorem gX3_turned_X3_one : GoodIn wsX3_turned (wsV RX3 95 RX3 yX3_one wsX3_one) := goodIn_app (goodIn_of _ (by decide +kernel)) ggX3_turned_X3_one
set_option maxRecDepth 20000 in
theorem ggX3_turned_X3_signed : GoodIn wsX3_turned wsX3_signed := goodIn_r _ [31, 32, 7] (by decide +kernel) (by decide +kernel)
set_option maxRecDepth 20000 in
theorem gX3_turned_X3_signed : GoodIn wsX3_turned (wsV RX3 99 RX3 yX3_signed wsX3_signed) := goodIn_app (goodIn_of _ (by decide +kernel)) ggX3_turned_X3_signed
theorem dX3_turned_0 : decode cX3_turned 0 = .ok (.iload 4, 2) := by decide +kernel
theorem dX3_turned_2 : decode cX3_turned 2 = .ok (.ifCond .ne 10, 3) := by decide +kernel
theorem dX3_turned_5 : decode cX3_turned 5 = .ok (.aload_n 0, 1) := by decide +kernel
theorem dX3_turned_6 : decode cX3_turned 6 = .ok (.iload_n 1, 1) := by decide +kernel
theorem dX3_turned_7 : decode cX3_turned 7 = .ok (.lload_n 2, 1) := by decide +kernel
theorem dX3_turned_8 : decode cX3_turned 8 = .ok (.invokevirtual 103, 3) := by decide +kernel
theorem dX3_turned_11 : decode cX3_turned 11 = .ok (.lreturn, 1) := by decide +kernel
theorem dX3_turned_12 : decode cX3_turned 12 = .ok (.iload 4, 2) := by decide +kernel
theorem dX3_turned_14 : decode cX3_turned 14 = .ok (.iconst 4, 1) := by decide +kernel
theorem dX3_turned_15 : decode cX3_turned 15 = .ok (.if_icmp .ge 12, 3) := by decide +kernel
theorem dX3_turned_18 : decode cX3_turned 18 = .ok (.aload_n 0, 1) := by decide +kernel
theorem dX3_turned_19 : decode cX3_turned 19 = .ok (.iload_n 1, 1) := by decide +kernel
theorem dX3_turned_20 : decode cX3_turned 20 = .ok (.lload_n 2, 1) := by decide +kernel
theorem dX3_turned_21 : decode cX3_turned 21 = .ok (.iload 4, 2) := by decide +kernel
theorem dX3_turned_23 : decode cX3_turned 23 = .ok (.invokevirtual 106, 3) := by decide +kernel
theorem dX3_turned_26 : decode cX3_turned 26 = .ok (.lreturn, 1) := by decide +kernel
theorem dX3_turned_27 : decode cX3_turned 27 = .ok (.aload_n 0, 1) := by decide +kernel
theorem dX3_turned_28 : decode cX3_turned 28 = .ok (.iload_n 1, 1) := by decide +kernel
theorem dX3_turned_29 : decode cX3_turned 29 = .ok (.lload_n 2, 1) := by decide +kernel
theorem dX3_turned_30 : decode cX3_turned 30 = .ok (.invokevirtual 88, 3) := by decide +kernel
theorem dX3_turned_33 : decode cX3_turned 33 = .ok (.lconst 0, 1) := by decide +kernel
theorem dX3_turned_34 : decode cX3_turned 34 = .ok (.lcmp, 1) := by decide +kernel
theorem dX3_turned_35 : decode cX3_turned 35 = .ok (.ifCond .ne 7, 3) := by decide +kernel
theorem dX3_turned_38 : decode cX3_turned 38 = .ok (.lload_n 2, 1) := by decide +kernel
theorem dX3_turned_39 : decode cX3_turned 39 = .ok (.goto 14, 3) := by decide +kernel
theorem dX3_turned_42 : decode cX3_turned 42 = .ok (.aload_n 0, 1) := by decide +kernel
theorem dX3_turned_43 : decode cX3_turned 43 = .ok (.iload_n 1, 1) := by decide +kernel
theorem dX3_turned_44 : decode cX3_turned 44 = .ok (.aload_n 0, 1) := by decide +kernel
theorem dX3_turned_45 : decode cX3_turned 45 = .ok (.iload_n 1, 1) := by decide +kernel
theorem dX3_turned_46 : decode cX3_turned 46 = .ok (.invokevirtual 95, 3) := by decide +kernel
theorem dX3_turned_49 : decode cX3_turned 49 = .ok (.lload_n 2, 1) := by decide +kernel
theorem dX3_turned_50 : decode cX3_turned 50 = .ok (.invokevirtual 99, 3) := by decide +kernel
theorem dX3_turned_53 : decode cX3_turned 53 = .ok (.lreturn, 1) := by decide +kernel
set_option maxRecDepth 20000 in
theorem ggX3_fitted_X3_less : GoodIn wsX3_fitted wsX3_less := goodIn_r _ [8, 9, 10, 11, 7, 12, 13, 14, 15, 16, 17, 18, 19, 20, 21, 22] (by decide +kernel) (by decide +kernel)
set_option maxRecDepth 20000 in
theorem gX3_fitted_X3_less : GoodIn wsX3_fitted (wsV RX3 110 RX3 yX3_less wsX3_less) := goodIn_app (goodIn_of _ (by decide +kernel)) ggX3_fitted_X3_less
set_option maxRecDepth 20000 in
theorem ggX3_fitted_X3_greater : GoodIn wsX3_fitted wsX3_greater := goodIn_r _ [26, 9, 10, 11, 7, 12, 13, 14, 15, 16, 17, 18, 19, 20, 21, 22] (by decide +kernel) (by decide +kernel)
set_option maxRecDepth 20000 in
theorem gX3_fitted_X3_greater : GoodIn wsX3_fitted (wsV RX3 113 RX3 yX3_greater wsX3_greater) := goodIn_app (goodIn_of _ (by decide +kernel)) ggX3_fitted_X3_greater
theorem dX3_fitted_0 : decode cX3_fitted 0 = .ok (.aload_n 0, 1) := by decide +kernel
theorem dX3_fitted_1 : decode cX3_fitted 1 = .ok (.getfield 7, 3) := by decide +kernel
theorem dX3_fitted_4 : decode cX3_fitted 4 = .ok (.iload_n 1, 1) := by decide +kernel
theorem dX3_fitted_5 : decode cX3_fitted 5 = .ok (.iaload, 1) := by decide +kernel
theorem dX3_fitted_6 : decode cX3_fitted 6 = .ok (.istore 4, 2) := by decide +kernel
theorem dX3_fitted_8 : decode cX3_fitted 8 = .ok (.aload_n 0, 1) := by decide +kernel
theorem dX3_fitted_9 : decode cX3_fitted 9 = .ok (.iload 4, 2) := by decide +kernel
theorem dX3_fitted_11 : decode cX3_fitted 11 = .ok (.aload_n 0, 1) := by decide +kernel
theorem dX3_fitted_12 : decode cX3_fitted 12 = .ok (.getfield 17, 3) := by decide +kernel
theorem dX3_fitted_15 : decode cX3_fitted 15 = .ok (.iload_n 1, 1) := by decide +kernel
theorem dX3_fitted_16 : decode cX3_fitted 16 = .ok (.laload, 1) := by decide +kernel
theorem dX3_fitted_17 : decode cX3_fitted 17 = .ok (.aload_n 0, 1) := by decide +kernel
theorem dX3_fitted_18 : decode cX3_fitted 18 = .ok (.iload 4, 2) := by decide +kernel
theorem dX3_fitted_20 : decode cX3_fitted 20 = .ok (.aload_n 0, 1) := by decide +kernel
theorem dX3_fitted_21 : decode cX3_fitted 21 = .ok (.getfield 20, 3) := by decide +kernel
theorem dX3_fitted_24 : decode cX3_fitted 24 = .ok (.iload_n 1, 1) := by decide +kernel
theorem dX3_fitted_25 : decode cX3_fitted 25 = .ok (.laload, 1) := by decide +kernel
theorem dX3_fitted_26 : decode cX3_fitted 26 = .ok (.lload_n 2, 1) := by decide +kernel
theorem dX3_fitted_27 : decode cX3_fitted 27 = .ok (.invokevirtual 110, 3) := by decide +kernel
theorem dX3_fitted_30 : decode cX3_fitted 30 = .ok (.invokevirtual 113, 3) := by decide +kernel
theorem dX3_fitted_33 : decode cX3_fitted 33 = .ok (.lreturn, 1) := by decide +kernel
set_option maxRecDepth 20000 in
theorem ggX3_gives_X3_greater : GoodIn wsX3_gives wsX3_greater := goodIn_r _ [7, 8, 9, 10, 6, 11, 12, 13, 14, 15, 16, 17, 18, 19, 20, 21] (by decide +kernel) (by decide +kernel)
set_option maxRecDepth 20000 in
theorem gX3_gives_X3_greater : GoodIn wsX3_gives (wsV RX3 113 RX3 yX3_greater wsX3_greater) := goodIn_app (goodIn_of _ (by decide +kernel)) ggX3_gives_X3_greater
set_option maxRecDepth 20000 in
theorem ggX3_gives_X3_less : GoodIn wsX3_gives wsX3_less := goodIn_r _ [25, 8, 9, 10, 6, 11, 12, 13, 14, 15, 16, 17, 18, 19, 20, 21] (by decide +kernel) (by decide +kernel)
set_option maxRecDepth 20000 in
theorem gX3_gives_X3_less : GoodIn wsX3_gives (wsV RX3 110 RX3 yX3_less wsX3_less) := goodIn_app (goodIn_of _ (by decide +kernel)) ggX3_gives_X3_less
set_option maxRecDepth 20000 in
theorem ggX3_gives_X3_plain : GoodIn wsX3_gives wsX3_plain := goodIn_r _ [29, 16, 17] (by decide +kernel) (by decide +kernel)
set_option maxRecDepth 20000 in
theorem gX3_gives_X3_plain : GoodIn wsX3_gives (wsV RX3 88 RX3 yX3_plain wsX3_plain) := goodIn_app (goodIn_of _ (by decide +kernel)) ggX3_gives_X3_plain
set_option maxRecDepth 20000 in
theorem ggX3_gives_X3_signed : GoodIn wsX3_gives wsX3_signed := goodIn_r _ [33, 34, 35] (by decide +kernel) (by decide +kernel)
set_option maxRecDepth 20000 in
theorem gX3_gives_X3_signed : GoodIn wsX3_gives (wsV RX3 99 RX3 yX3_signed wsX3_signed) := goodIn_app (goodIn_of _ (by decide +kernel)) ggX3_gives_X3_signed
set_option maxRecDepth 20000 in
theorem ggX3_gives_X3_sizeOf : GoodIn wsX3_gives wsX3_sizeOf := goodIn_r _ [39, 40, 35, 18, 19, 20, 6, 21, 26, 27, 28, 29, 16, 17] (by decide +kernel) (by decide +kernel)
set_option maxRecDepth 20000 in
theorem gX3_gives_X3_sizeOf : GoodIn wsX3_gives (wsV RX3 103 RX3 yX3_sizeOf wsX3_sizeOf) := goodIn_app (goodIn_of _ (by decide +kernel)) ggX3_gives_X3_sizeOf
theorem dX3_gives_0 : decode cX3_gives 0 = .ok (.aload_n 0, 1) := by decide +kernel
theorem dX3_gives_1 : decode cX3_gives 1 = .ok (.getfield 7, 3) := by decide +kernel
theorem dX3_gives_4 : decode cX3_gives 4 = .ok (.iload_n 2, 1) := by decide +kernel
theorem dX3_gives_5 : decode cX3_gives 5 = .ok (.iaload, 1) := by decide +kernel
theorem dX3_gives_6 : decode cX3_gives 6 = .ok (.istore 4, 2) := by decide +kernel
theorem dX3_gives_8 : decode cX3_gives 8 = .ok (.iload_n 1, 1) := by decide +kernel
theorem dX3_gives_9 : decode cX3_gives 9 = .ok (.ifCond .ne 22, 3) := by decide +kernel
theorem dX3_gives_12 : decode cX3_gives 12 = .ok (.aload_n 0, 1) := by decide +kernel
theorem dX3_gives_13 : decode cX3_gives 13 = .ok (.iload 4, 2) := by decide +kernel
theorem dX3_gives_15 : decode cX3_gives 15 = .ok (.aload_n 0, 1) := by decide +kernel
theorem dX3_gives_16 : decode cX3_gives 16 = .ok (.getfield 13, 3) := by decide +kernel
theorem dX3_gives_19 : decode cX3_gives 19 = .ok (.iload_n 2, 1) := by decide +kernel
theorem dX3_gives_20 : decode cX3_gives 20 = .ok (.laload, 1) := by decide +kernel
theorem dX3_gives_21 : decode cX3_gives 21 = .ok (.aload_n 0, 1) := by decide +kernel
theorem dX3_gives_22 : decode cX3_gives 22 = .ok (.getfield 13, 3) := by decide +kernel
theorem dX3_gives_25 : decode cX3_gives 25 = .ok (.iload_n 3, 1) := by decide +kernel
theorem dX3_gives_26 : decode cX3_gives 26 = .ok (.laload, 1) := by decide +kernel
theorem dX3_gives_27 : decode cX3_gives 27 = .ok (.invokevirtual 113, 3) := by decide +kernel
theorem dX3_gives_30 : decode cX3_gives 30 = .ok (.lreturn, 1) := by decide +kernel
theorem dX3_gives_31 : decode cX3_gives 31 = .ok (.iload_n 1, 1) := by decide +kernel
theorem dX3_gives_32 : decode cX3_gives 32 = .ok (.iconst 1, 1) := by decide +kernel
theorem dX3_gives_33 : decode cX3_gives 33 = .ok (.if_icmp .ne 22, 3) := by decide +kernel
theorem dX3_gives_36 : decode cX3_gives 36 = .ok (.aload_n 0, 1) := by decide +kernel
theorem dX3_gives_37 : decode cX3_gives 37 = .ok (.iload 4, 2) := by decide +kernel
theorem dX3_gives_39 : decode cX3_gives 39 = .ok (.aload_n 0, 1) := by decide +kernel
theorem dX3_gives_40 : decode cX3_gives 40 = .ok (.getfield 13, 3) := by decide +kernel
theorem dX3_gives_43 : decode cX3_gives 43 = .ok (.iload_n 2, 1) := by decide +kernel
theorem dX3_gives_44 : decode cX3_gives 44 = .ok (.laload, 1) := by decide +kernel
theorem dX3_gives_45 : decode cX3_gives 45 = .ok (.aload_n 0, 1) := by decide +kernel
theorem dX3_gives_46 : decode cX3_gives 46 = .ok (.getfield 13, 3) := by decide +kernel
theorem dX3_gives_49 : decode cX3_gives 49 = .ok (.iload_n 3, 1) := by decide +kernel
theorem dX3_gives_50 : decode cX3_gives 50 = .ok (.laload, 1) := by decide +kernel
theorem dX3_gives_51 : decode cX3_gives 51 = .ok (.invokevirtual 110, 3) := by decide +kernel
theorem dX3_gives_54 : decode cX3_gives 54 = .ok (.lreturn, 1) := by decide +kernel
theorem dX3_gives_55 : decode cX3_gives 55 = .ok (.iload_n 1, 1) := by decide +kernel
theorem dX3_gives_56 : decode cX3_gives 56 = .ok (.iconst 2, 1) := by decide +kernel
theorem dX3_gives_57 : decode cX3_gives 57 = .ok (.if_icmp .ne 28, 3) := by decide +kernel
theorem dX3_gives_60 : decode cX3_gives 60 = .ok (.aload_n 0, 1) := by decide +kernel
theorem dX3_gives_61 : decode cX3_gives 61 = .ok (.iload 4, 2) := by decide +kernel
theorem dX3_gives_63 : decode cX3_gives 63 = .ok (.aload_n 0, 1) := by decide +kernel
theorem dX3_gives_64 : decode cX3_gives 64 = .ok (.iload 4, 2) := by decide +kernel
theorem dX3_gives_66 : decode cX3_gives 66 = .ok (.aload_n 0, 1) := by decide +kernel
theorem dX3_gives_67 : decode cX3_gives 67 = .ok (.getfield 13, 3) := by decide +kernel
theorem dX3_gives_70 : decode cX3_gives 70 = .ok (.iload_n 3, 1) := by decide +kernel
theorem dX3_gives_71 : decode cX3_gives 71 = .ok (.laload, 1) := by decide +kernel
theorem dX3_gives_72 : decode cX3_gives 72 = .ok (.invokevirtual 88, 3) := by decide +kernel
theorem dX3_gives_75 : decode cX3_gives 75 = .ok (.aload_n 0, 1) := by decide +kernel
theorem dX3_gives_76 : decode cX3_gives 76 = .ok (.getfield 13, 3) := by decide +kernel
theorem dX3_gives_79 : decode cX3_gives 79 = .ok (.iload_n 2, 1) := by decide +kernel
theorem dX3_gives_80 : decode cX3_gives 80 = .ok (.laload, 1) := by decide +kernel
theorem dX3_gives_81 : decode cX3_gives 81 = .ok (.invokevirtual 99, 3) := by decide +kernel
end
section
theorem dX3_gives_84 : decode cX3_gives 84 = .ok (.lreturn, 1) := by decide +kernel
theorem dX3_gives_85 : decode cX3_gives 85 = .ok (.aload_n 0, 1) := by decide +kernel
theorem dX3_gives_86 : decode cX3_gives 86 = .ok (.iload 4, 2) := by decide +kernel
theorem dX3_gives_88 : decode cX3_gives 88 = .ok (.aload_n 0, 1) := by decide +kernel
theorem dX3_gives_89 : decode cX3_gives 89 = .ok (.getfield 13, 3) := by decide +kernel
theorem dX3_gives_92 : decode cX3_gives 92 = .ok (.iload_n 2, 1) := by decide +kernel
theorem dX3_gives_93 : decode cX3_gives 93 = .ok (.laload, 1) := by decide +kernel
theorem dX3_gives_94 : decode cX3_gives 94 = .ok (.invokevirtual 103, 3) := by decide +kernel
theorem dX3_gives_97 : decode cX3_gives 97 = .ok (.lreturn, 1) := by decide +kernel
set_option maxRecDepth 20000 in
theorem ggX3_moved_X3_fitted : GoodIn wsX3_moved wsX3_fitted := goodIn_r _ [7, 8, 9, 10, 11, 12, 13, 6, 14, 15, 16, 17, 18, 19, 20, 21, 22, 23, 24, 25, 26, 27, 28, 29, 30, 31, 32, 33, 34, 35, 36, 37, 38, 39, 40, 41, 42, 43, 44, 45, 46, 47, 48, 49, 50, 51] (by decide +kernel) (by decide +kernel)
set_option maxRecDepth 20000 in
theorem gX3_moved_X3_fitted : GoodIn wsX3_moved (wsV RX3 116 RX3 yX3_fitted wsX3_fitted) := goodIn_app (goodIn_of _ (by decide +kernel)) ggX3_moved_X3_fitted
theorem dX3_moved_0 : decode cX3_moved 0 = .ok (.aload_n 0, 1) := by decide +kernel
theorem dX3_moved_1 : decode cX3_moved 1 = .ok (.iload_n 1, 1) := by decide +kernel
theorem dX3_moved_2 : decode cX3_moved 2 = .ok (.lload_n 2, 1) := by decide +kernel
theorem dX3_moved_3 : decode cX3_moved 3 = .ok (.invokevirtual 116, 3) := by decide +kernel
theorem dX3_moved_6 : decode cX3_moved 6 = .ok (.lstore 4, 2) := by decide +kernel
theorem dX3_moved_8 : decode cX3_moved 8 = .ok (.lload 4, 2) := by decide +kernel
theorem dX3_moved_10 : decode cX3_moved 10 = .ok (.aload_n 0, 1) := by decide +kernel
theorem dX3_moved_11 : decode cX3_moved 11 = .ok (.getfield 13, 3) := by decide +kernel
theorem dX3_moved_14 : decode cX3_moved 14 = .ok (.iload_n 1, 1) := by decide +kernel
theorem dX3_moved_15 : decode cX3_moved 15 = .ok (.laload, 1) := by decide +kernel
theorem dX3_moved_16 : decode cX3_moved 16 = .ok (.lcmp, 1) := by decide +kernel
theorem dX3_moved_17 : decode cX3_moved 17 = .ok (.ifCond .ne 5, 3) := by decide +kernel
theorem dX3_moved_20 : decode cX3_moved 20 = .ok (.iconst 0, 1) := by decide +kernel
theorem dX3_moved_21 : decode cX3_moved 21 = .ok (.ireturn, 1) := by decide +kernel
theorem dX3_moved_22 : decode cX3_moved 22 = .ok (.aload_n 0, 1) := by decide +kernel
theorem dX3_moved_23 : decode cX3_moved 23 = .ok (.getfield 13, 3) := by decide +kernel
theorem dX3_moved_26 : decode cX3_moved 26 = .ok (.iload_n 1, 1) := by decide +kernel
theorem dX3_moved_27 : decode cX3_moved 27 = .ok (.lload 4, 2) := by decide +kernel
theorem dX3_moved_29 : decode cX3_moved 29 = .ok (.lastore, 1) := by decide +kernel
theorem dX3_moved_30 : decode cX3_moved 30 = .ok (.aload_n 0, 1) := by decide +kernel
theorem dX3_moved_31 : decode cX3_moved 31 = .ok (.dup, 1) := by decide +kernel
theorem dX3_moved_32 : decode cX3_moved 32 = .ok (.getfield 119, 3) := by decide +kernel
theorem dX3_moved_35 : decode cX3_moved 35 = .ok (.iconst 1, 1) := by decide +kernel
theorem dX3_moved_36 : decode cX3_moved 36 = .ok (.iadd, 1) := by decide +kernel
theorem dX3_moved_37 : decode cX3_moved 37 = .ok (.putfield 119, 3) := by decide +kernel
theorem dX3_moved_40 : decode cX3_moved 40 = .ok (.iconst 1, 1) := by decide +kernel
theorem dX3_moved_41 : decode cX3_moved 41 = .ok (.ireturn, 1) := by decide +kernel
set_option maxRecDepth 20000 in
theorem ggX3_gets_X3_moved : GoodIn wsX3_gets wsX3_moved := goodIn_r _ [12, 13, 14, 15, 16, 17, 11, 18, 19, 20, 21, 22, 23, 24, 25, 26, 27, 28, 29, 30, 31, 32, 33, 34, 35, 36, 37, 38, 39, 40, 41, 42, 43, 63, 64, 65, 66, 67, 68, 69, 70, 71, 72, 73, 74, 75, 76, 77, 78, 79, 80, 81] (by decide +kernel) (by decide +kernel)
set_option maxRecDepth 20000 in
theorem gX3_gets_X3_moved : GoodIn wsX3_gets (wsV RX3 122 RX3 yX3_moved wsX3_moved) := goodIn_app (goodIn_of _ (by decide +kernel)) ggX3_gets_X3_moved
set_option maxRecDepth 20000 in
theorem ggX3_gets_X3_gives : GoodIn wsX3_gets wsX3_gives := goodIn_r _ [47, 19, 13, 40, 41, 42, 11, 43, 26, 27, 28, 29, 30, 31, 32, 33, 34, 35, 36, 37, 38, 39, 22, 23, 24, 25, 48, 49, 50, 51, 52, 53, 54, 55, 56, 57, 58, 59, 60, 61, 62, 63, 64, 65, 66, 67, 68, 69, 70, 71, 72, 73, 74, 75, 76, 77, 78, 79, 80, 81] (by decide +kernel) (by decide +kernel)
set_option maxRecDepth 20000 in
theorem gX3_gets_X3_gives : GoodIn wsX3_gets (wsV RX3 129 RX3 yX3_gives wsX3_gives) := goodIn_app (goodIn_of _ (by decide +kernel)) ggX3_gets_X3_gives
theorem dX3_gets_0 : decode cX3_gets 0 = .ok (.aload_n 0, 1) := by decide +kernel
theorem dX3_gets_1 : decode cX3_gets 1 = .ok (.iload_n 1, 1) := by decide +kernel
theorem dX3_gets_2 : decode cX3_gets 2 = .ok (.lload_n 2, 1) := by decide +kernel
theorem dX3_gets_3 : decode cX3_gets 3 = .ok (.invokevirtual 122, 3) := by decide +kernel
theorem dX3_gets_6 : decode cX3_gets 6 = .ok (.ifCond .ne 4, 3) := by decide +kernel
theorem dX3_gets_9 : decode cX3_gets 9 = .ok (.return_, 1) := by decide +kernel
theorem dX3_gets_10 : decode cX3_gets 10 = .ok (.aload_n 0, 1) := by decide +kernel
theorem dX3_gets_11 : decode cX3_gets 11 = .ok (.getfield 45, 3) := by decide +kernel
theorem dX3_gets_14 : decode cX3_gets 14 = .ok (.iconst 0, 1) := by decide +kernel
theorem dX3_gets_15 : decode cX3_gets 15 = .ok (.iload_n 1, 1) := by decide +kernel
theorem dX3_gets_16 : decode cX3_gets 16 = .ok (.iastore, 1) := by decide +kernel
theorem dX3_gets_17 : decode cX3_gets 17 = .ok (.aload_n 0, 1) := by decide +kernel
theorem dX3_gets_18 : decode cX3_gets 18 = .ok (.getfield 48, 3) := by decide +kernel
theorem dX3_gets_21 : decode cX3_gets 21 = .ok (.iconst 0, 1) := by decide +kernel
theorem dX3_gets_22 : decode cX3_gets 22 = .ok (.iconst 0, 1) := by decide +kernel
theorem dX3_gets_23 : decode cX3_gets 23 = .ok (.iastore, 1) := by decide +kernel
theorem dX3_gets_24 : decode cX3_gets 24 = .ok (.iconst 1, 1) := by decide +kernel
theorem dX3_gets_25 : decode cX3_gets 25 = .ok (.istore 4, 2) := by decide +kernel
theorem dX3_gets_27 : decode cX3_gets 27 = .ok (.iload 4, 2) := by decide +kernel
theorem dX3_gets_29 : decode cX3_gets 29 = .ok (.ifCond .le 160, 3) := by decide +kernel
theorem dX3_gets_32 : decode cX3_gets 32 = .ok (.aload_n 0, 1) := by decide +kernel
theorem dX3_gets_33 : decode cX3_gets 33 = .ok (.getfield 45, 3) := by decide +kernel
theorem dX3_gets_36 : decode cX3_gets 36 = .ok (.iload 4, 2) := by decide +kernel
theorem dX3_gets_38 : decode cX3_gets 38 = .ok (.iconst 1, 1) := by decide +kernel
theorem dX3_gets_39 : decode cX3_gets 39 = .ok (.isub, 1) := by decide +kernel
theorem dX3_gets_40 : decode cX3_gets 40 = .ok (.iaload, 1) := by decide +kernel
theorem dX3_gets_41 : decode cX3_gets 41 = .ok (.istore 5, 2) := by decide +kernel
theorem dX3_gets_43 : decode cX3_gets 43 = .ok (.aload_n 0, 1) := by decide +kernel
theorem dX3_gets_44 : decode cX3_gets 44 = .ok (.getfield 48, 3) := by decide +kernel
theorem dX3_gets_47 : decode cX3_gets 47 = .ok (.iload 4, 2) := by decide +kernel
theorem dX3_gets_49 : decode cX3_gets 49 = .ok (.iconst 1, 1) := by decide +kernel
theorem dX3_gets_50 : decode cX3_gets 50 = .ok (.isub, 1) := by decide +kernel
theorem dX3_gets_51 : decode cX3_gets 51 = .ok (.iaload, 1) := by decide +kernel
theorem dX3_gets_52 : decode cX3_gets 52 = .ok (.istore 6, 2) := by decide +kernel
theorem dX3_gets_54 : decode cX3_gets 54 = .ok (.iload 6, 2) := by decide +kernel
theorem dX3_gets_56 : decode cX3_gets 56 = .ok (.aload_n 0, 1) := by decide +kernel
theorem dX3_gets_57 : decode cX3_gets 57 = .ok (.getfield 126, 3) := by decide +kernel
theorem dX3_gets_60 : decode cX3_gets 60 = .ok (.if_icmp .ge 31, 3) := by decide +kernel
theorem dX3_gets_63 : decode cX3_gets 63 = .ok (.aload_n 0, 1) := by decide +kernel
theorem dX3_gets_64 : decode cX3_gets 64 = .ok (.getfield 26, 3) := by decide +kernel
theorem dX3_gets_67 : decode cX3_gets 67 = .ok (.iload 6, 2) := by decide +kernel
theorem dX3_gets_69 : decode cX3_gets 69 = .ok (.iaload, 1) := by decide +kernel
theorem dX3_gets_70 : decode cX3_gets 70 = .ok (.iload 5, 2) := by decide +kernel
theorem dX3_gets_72 : decode cX3_gets 72 = .ok (.if_icmp .ne 13, 3) := by decide +kernel
theorem dX3_gets_75 : decode cX3_gets 75 = .ok (.aload_n 0, 1) := by decide +kernel
theorem dX3_gets_76 : decode cX3_gets 76 = .ok (.getfield 32, 3) := by decide +kernel
theorem dX3_gets_79 : decode cX3_gets 79 = .ok (.iload 6, 2) := by decide +kernel
theorem dX3_gets_81 : decode cX3_gets 81 = .ok (.baload, 1) := by decide +kernel
theorem dX3_gets_82 : decode cX3_gets 82 = .ok (.ifCond .eq 9, 3) := by decide +kernel
theorem dX3_gets_85 : decode cX3_gets 85 = .ok (.iinc 6 1, 3) := by decide +kernel
theorem dX3_gets_88 : decode cX3_gets 88 = .ok (.goto (-34), 3) := by decide +kernel
theorem dX3_gets_91 : decode cX3_gets 91 = .ok (.aload_n 0, 1) := by decide +kernel
theorem dX3_gets_92 : decode cX3_gets 92 = .ok (.getfield 48, 3) := by decide +kernel
theorem dX3_gets_95 : decode cX3_gets 95 = .ok (.iload 4, 2) := by decide +kernel
theorem dX3_gets_97 : decode cX3_gets 97 = .ok (.iconst 1, 1) := by decide +kernel
theorem dX3_gets_98 : decode cX3_gets 98 = .ok (.isub, 1) := by decide +kernel
theorem dX3_gets_99 : decode cX3_gets 99 = .ok (.iload 6, 2) := by decide +kernel
theorem dX3_gets_101 : decode cX3_gets 101 = .ok (.iconst 1, 1) := by decide +kernel
theorem dX3_gets_102 : decode cX3_gets 102 = .ok (.iadd, 1) := by decide +kernel
theorem dX3_gets_103 : decode cX3_gets 103 = .ok (.iastore, 1) := by decide +kernel
theorem dX3_gets_104 : decode cX3_gets 104 = .ok (.iload 6, 2) := by decide +kernel
theorem dX3_gets_106 : decode cX3_gets 106 = .ok (.aload_n 0, 1) := by decide +kernel
theorem dX3_gets_107 : decode cX3_gets 107 = .ok (.getfield 126, 3) := by decide +kernel
theorem dX3_gets_110 : decode cX3_gets 110 = .ok (.if_icmp .lt 9, 3) := by decide +kernel
theorem dX3_gets_113 : decode cX3_gets 113 = .ok (.iinc 4 (-1), 3) := by decide +kernel
theorem dX3_gets_116 : decode cX3_gets 116 = .ok (.goto (-89), 3) := by decide +kernel
theorem dX3_gets_119 : decode cX3_gets 119 = .ok (.aload_n 0, 1) := by decide +kernel
theorem dX3_gets_120 : decode cX3_gets 120 = .ok (.getfield 32, 3) := by decide +kernel
theorem dX3_gets_123 : decode cX3_gets 123 = .ok (.iload 6, 2) := by decide +kernel
theorem dX3_gets_125 : decode cX3_gets 125 = .ok (.iconst 1, 1) := by decide +kernel
theorem dX3_gets_126 : decode cX3_gets 126 = .ok (.bastore, 1) := by decide +kernel
theorem dX3_gets_127 : decode cX3_gets 127 = .ok (.aload_n 0, 1) := by decide +kernel
theorem dX3_gets_128 : decode cX3_gets 128 = .ok (.aload_n 0, 1) := by decide +kernel
theorem dX3_gets_129 : decode cX3_gets 129 = .ok (.getfield 29, 3) := by decide +kernel
theorem dX3_gets_132 : decode cX3_gets 132 = .ok (.iload 6, 2) := by decide +kernel
theorem dX3_gets_134 : decode cX3_gets 134 = .ok (.iaload, 1) := by decide +kernel
theorem dX3_gets_135 : decode cX3_gets 135 = .ok (.aload_n 0, 1) := by decide +kernel
theorem dX3_gets_136 : decode cX3_gets 136 = .ok (.aload_n 0, 1) := by decide +kernel
theorem dX3_gets_137 : decode cX3_gets 137 = .ok (.getfield 23, 3) := by decide +kernel
theorem dX3_gets_140 : decode cX3_gets 140 = .ok (.iload 6, 2) := by decide +kernel
theorem dX3_gets_142 : decode cX3_gets 142 = .ok (.iaload, 1) := by decide +kernel
theorem dX3_gets_143 : decode cX3_gets 143 = .ok (.iload 5, 2) := by decide +kernel
theorem dX3_gets_145 : decode cX3_gets 145 = .ok (.aload_n 0, 1) := by decide +kernel
theorem dX3_gets_146 : decode cX3_gets 146 = .ok (.getfield 29, 3) := by decide +kernel
theorem dX3_gets_149 : decode cX3_gets 149 = .ok (.iload 6, 2) := by decide +kernel
theorem dX3_gets_151 : decode cX3_gets 151 = .ok (.iaload, 1) := by decide +kernel
theorem dX3_gets_152 : decode cX3_gets 152 = .ok (.invokevirtual 129, 3) := by decide +kernel
theorem dX3_gets_155 : decode cX3_gets 155 = .ok (.invokevirtual 122, 3) := by decide +kernel
theorem dX3_gets_158 : decode cX3_gets 158 = .ok (.ifCond .eq 28, 3) := by decide +kernel
theorem dX3_gets_161 : decode cX3_gets 161 = .ok (.aload_n 0, 1) := by decide +kernel
theorem dX3_gets_162 : decode cX3_gets 162 = .ok (.getfield 45, 3) := by decide +kernel
theorem dX3_gets_165 : decode cX3_gets 165 = .ok (.iload 4, 2) := by decide +kernel
theorem dX3_gets_167 : decode cX3_gets 167 = .ok (.aload_n 0, 1) := by decide +kernel
theorem dX3_gets_168 : decode cX3_gets 168 = .ok (.getfield 29, 3) := by decide +kernel
theorem dX3_gets_171 : decode cX3_gets 171 = .ok (.iload 6, 2) := by decide +kernel
theorem dX3_gets_173 : decode cX3_gets 173 = .ok (.iaload, 1) := by decide +kernel
theorem dX3_gets_174 : decode cX3_gets 174 = .ok (.iastore, 1) := by decide +kernel
theorem dX3_gets_175 : decode cX3_gets 175 = .ok (.aload_n 0, 1) := by decide +kernel
theorem dX3_gets_176 : decode cX3_gets 176 = .ok (.getfield 48, 3) := by decide +kernel
theorem dX3_gets_179 : decode cX3_gets 179 = .ok (.iload 4, 2) := by decide +kernel
theorem dX3_gets_181 : decode cX3_gets 181 = .ok (.iconst 0, 1) := by decide +kernel
theorem dX3_gets_182 : decode cX3_gets 182 = .ok (.iastore, 1) := by decide +kernel
theorem dX3_gets_183 : decode cX3_gets 183 = .ok (.iinc 4 1, 3) := by decide +kernel
theorem dX3_gets_186 : decode cX3_gets 186 = .ok (.goto (-159), 3) := by decide +kernel
theorem dX3_gets_189 : decode cX3_gets 189 = .ok (.return_, 1) := by decide +kernel
set_option maxRecDepth 20000 in
theorem ggX3_call_X3_gets : GoodIn wsX3_call wsX3_gets := goodIn_r _ [11, 12, 13, 14, 15, 5, 16, 17, 18, 19, 20, 10, 21, 4, 2, 22, 23, 24, 25, 26, 27, 28, 29, 30, 31, 32, 33, 34, 35, 36, 37, 38, 39, 40, 41, 42, 43, 44, 45, 46, 47, 48, 49, 50, 51, 52, 53, 54, 55, 56, 57, 58, 59, 60, 61, 62, 63, 64, 65, 66, 67, 68, 69, 78, 79, 80, 81, 82, 83, 84, 85, 86, 87, 88, 89, 90, 91, 92, 93, 94, 95, 96] (by decide +kernel) (by decide +kernel)
set_option maxRecDepth 20000 in
theorem gX3_call_X3_gets : GoodIn wsX3_call (wsV RX3 133 RX3 yX3_gets wsX3_gets) := goodIn_app (goodIn_of _ (by decide +kernel)) ggX3_call_X3_gets
set_option maxRecDepth 20000 in
theorem ggX3_call_X3_keep : GoodIn wsX3_call wsX3_keep := goodIn_r _ [73, 74, 75, 76, 3, 77, 78, 79, 80, 81, 82, 83, 84, 85, 86, 87, 88, 89, 90, 91, 92, 93, 94, 95, 96] (by decide +kernel) (by decide +kernel)
set_option maxRecDepth 20000 in
theorem gX3_call_X3_keep : GoodIn wsX3_call (wsV RX3 140 RX3 yX3_keep wsX3_keep) := goodIn_app (goodIn_of _ (by decide +kernel)) ggX3_call_X3_keep
theorem dX3_call_0 : decode cX3_call 0 = .ok (.aload_n 0, 1) := by decide +kernel
theorem dX3_call_1 : decode cX3_call 1 = .ok (.iconst 0, 1) := by decide +kernel
theorem dX3_call_2 : decode cX3_call 2 = .ok (.putfield 55, 3) := by decide +kernel
theorem dX3_call_5 : decode cX3_call 5 = .ok (.aload_n 0, 1) := by decide +kernel
theorem dX3_call_6 : decode cX3_call 6 = .ok (.iconst 0, 1) := by decide +kernel
theorem dX3_call_7 : decode cX3_call 7 = .ok (.putfield 119, 3) := by decide +kernel
theorem dX3_call_10 : decode cX3_call 10 = .ok (.iconst 0, 1) := by decide +kernel
theorem dX3_call_11 : decode cX3_call 11 = .ok (.istore 4, 2) := by decide +kernel
theorem dX3_call_13 : decode cX3_call 13 = .ok (.iload 4, 2) := by decide +kernel
theorem dX3_call_15 : decode cX3_call 15 = .ok (.bipush 16, 2) := by decide +kernel
theorem dX3_call_17 : decode cX3_call 17 = .ok (.if_icmp .ge 23, 3) := by decide +kernel
theorem dX3_call_20 : decode cX3_call 20 = .ok (.aload_n 0, 1) := by decide +kernel
theorem dX3_call_21 : decode cX3_call 21 = .ok (.getfield 39, 3) := by decide +kernel
theorem dX3_call_24 : decode cX3_call 24 = .ok (.iload 4, 2) := by decide +kernel
theorem dX3_call_26 : decode cX3_call 26 = .ok (.aload_n 0, 1) := by decide +kernel
theorem dX3_call_27 : decode cX3_call 27 = .ok (.getfield 13, 3) := by decide +kernel
theorem dX3_call_30 : decode cX3_call 30 = .ok (.iload 4, 2) := by decide +kernel
theorem dX3_call_32 : decode cX3_call 32 = .ok (.laload, 1) := by decide +kernel
theorem dX3_call_33 : decode cX3_call 33 = .ok (.lastore, 1) := by decide +kernel
theorem dX3_call_34 : decode cX3_call 34 = .ok (.iinc 4 1, 3) := by decide +kernel
theorem dX3_call_37 : decode cX3_call 37 = .ok (.goto (-24), 3) := by decide +kernel
theorem dX3_call_40 : decode cX3_call 40 = .ok (.iconst 0, 1) := by decide +kernel
theorem dX3_call_41 : decode cX3_call 41 = .ok (.istore 4, 2) := by decide +kernel
theorem dX3_call_43 : decode cX3_call 43 = .ok (.iload 4, 2) := by decide +kernel
theorem dX3_call_45 : decode cX3_call 45 = .ok (.bipush 24, 2) := by decide +kernel
theorem dX3_call_47 : decode cX3_call 47 = .ok (.if_icmp .ge 17, 3) := by decide +kernel
theorem dX3_call_50 : decode cX3_call 50 = .ok (.aload_n 0, 1) := by decide +kernel
theorem dX3_call_51 : decode cX3_call 51 = .ok (.getfield 32, 3) := by decide +kernel
theorem dX3_call_54 : decode cX3_call 54 = .ok (.iload 4, 2) := by decide +kernel
theorem dX3_call_56 : decode cX3_call 56 = .ok (.iconst 0, 1) := by decide +kernel
theorem dX3_call_57 : decode cX3_call 57 = .ok (.bastore, 1) := by decide +kernel
theorem dX3_call_58 : decode cX3_call 58 = .ok (.iinc 4 1, 3) := by decide +kernel
theorem dX3_call_61 : decode cX3_call 61 = .ok (.goto (-18), 3) := by decide +kernel
theorem dX3_call_64 : decode cX3_call 64 = .ok (.aload_n 0, 1) := by decide +kernel
theorem dX3_call_65 : decode cX3_call 65 = .ok (.iload_n 1, 1) := by decide +kernel
theorem dX3_call_66 : decode cX3_call 66 = .ok (.lload_n 2, 1) := by decide +kernel
theorem dX3_call_67 : decode cX3_call 67 = .ok (.invokevirtual 133, 3) := by decide +kernel
theorem dX3_call_70 : decode cX3_call 70 = .ok (.aload_n 0, 1) := by decide +kernel
theorem dX3_call_71 : decode cX3_call 71 = .ok (.dup, 1) := by decide +kernel
theorem dX3_call_72 : decode cX3_call 72 = .ok (.getfield 137, 3) := by decide +kernel
theorem dX3_call_75 : decode cX3_call 75 = .ok (.aload_n 0, 1) := by decide +kernel
theorem dX3_call_76 : decode cX3_call 76 = .ok (.getfield 119, 3) := by decide +kernel
theorem dX3_call_79 : decode cX3_call 79 = .ok (.iadd, 1) := by decide +kernel
theorem dX3_call_80 : decode cX3_call 80 = .ok (.putfield 137, 3) := by decide +kernel
theorem dX3_call_83 : decode cX3_call 83 = .ok (.aload_n 0, 1) := by decide +kernel
theorem dX3_call_84 : decode cX3_call 84 = .ok (.getfield 119, 3) := by decide +kernel
theorem dX3_call_87 : decode cX3_call 87 = .ok (.ifCond .le 7, 3) := by decide +kernel
theorem dX3_call_90 : decode cX3_call 90 = .ok (.aload_n 0, 1) := by decide +kernel
theorem dX3_call_91 : decode cX3_call 91 = .ok (.invokevirtual 140, 3) := by decide +kernel
theorem dX3_call_94 : decode cX3_call 94 = .ok (.aload_n 0, 1) := by decide +kernel
theorem dX3_call_95 : decode cX3_call 95 = .ok (.getfield 119, 3) := by decide +kernel
theorem dX3_call_98 : decode cX3_call 98 = .ok (.ireturn, 1) := by decide +kernel
theorem dX3_keep_0 : decode cX3_keep 0 = .ok (.aload_n 0, 1) := by decide +kernel
theorem dX3_keep_1 : decode cX3_keep 1 = .ok (.getfield 143, 3) := by decide +kernel
theorem dX3_keep_4 : decode cX3_keep 4 = .ok (.bipush 6, 2) := by decide +kernel
theorem dX3_keep_6 : decode cX3_keep 6 = .ok (.if_icmp .ne 69, 3) := by decide +kernel
theorem dX3_keep_9 : decode cX3_keep 9 = .ok (.iconst 0, 1) := by decide +kernel
theorem dX3_keep_10 : decode cX3_keep 10 = .ok (.istore_n 1, 1) := by decide +kernel
theorem dX3_keep_11 : decode cX3_keep 11 = .ok (.iload_n 1, 1) := by decide +kernel
theorem dX3_keep_12 : decode cX3_keep 12 = .ok (.bipush 80, 2) := by decide +kernel
theorem dX3_keep_14 : decode cX3_keep 14 = .ok (.if_icmp .ge 24, 3) := by decide +kernel
theorem dX3_keep_17 : decode cX3_keep 17 = .ok (.aload_n 0, 1) := by decide +kernel
theorem dX3_keep_18 : decode cX3_keep 18 = .ok (.getfield 36, 3) := by decide +kernel
theorem dX3_keep_21 : decode cX3_keep 21 = .ok (.iload_n 1, 1) := by decide +kernel
theorem dX3_keep_22 : decode cX3_keep 22 = .ok (.aload_n 0, 1) := by decide +kernel
theorem dX3_keep_23 : decode cX3_keep 23 = .ok (.getfield 36, 3) := by decide +kernel
theorem dX3_keep_26 : decode cX3_keep 26 = .ok (.iload_n 1, 1) := by decide +kernel
theorem dX3_keep_27 : decode cX3_keep 27 = .ok (.bipush 16, 2) := by decide +kernel
theorem dX3_keep_29 : decode cX3_keep 29 = .ok (.iadd, 1) := by decide +kernel
theorem dX3_keep_30 : decode cX3_keep 30 = .ok (.laload, 1) := by decide +kernel
theorem dX3_keep_31 : decode cX3_keep 31 = .ok (.lastore, 1) := by decide +kernel
theorem dX3_keep_32 : decode cX3_keep 32 = .ok (.iinc 1 1, 3) := by decide +kernel
theorem dX3_keep_35 : decode cX3_keep 35 = .ok (.goto (-24), 3) := by decide +kernel
theorem dX3_keep_38 : decode cX3_keep 38 = .ok (.iconst 0, 1) := by decide +kernel
theorem dX3_keep_39 : decode cX3_keep 39 = .ok (.istore_n 1, 1) := by decide +kernel
theorem dX3_keep_40 : decode cX3_keep 40 = .ok (.iload_n 1, 1) := by decide +kernel
theorem dX3_keep_41 : decode cX3_keep 41 = .ok (.iconst 5, 1) := by decide +kernel
theorem dX3_keep_42 : decode cX3_keep 42 = .ok (.if_icmp .ge 23, 3) := by decide +kernel
theorem dX3_keep_45 : decode cX3_keep 45 = .ok (.aload_n 0, 1) := by decide +kernel
theorem dX3_keep_46 : decode cX3_keep 46 = .ok (.getfield 42, 3) := by decide +kernel
theorem dX3_keep_49 : decode cX3_keep 49 = .ok (.iload_n 1, 1) := by decide +kernel
theorem dX3_keep_50 : decode cX3_keep 50 = .ok (.aload_n 0, 1) := by decide +kernel
theorem dX3_keep_51 : decode cX3_keep 51 = .ok (.getfield 42, 3) := by decide +kernel
theorem dX3_keep_54 : decode cX3_keep 54 = .ok (.iload_n 1, 1) := by decide +kernel
theorem dX3_keep_55 : decode cX3_keep 55 = .ok (.iconst 1, 1) := by decide +kernel
theorem dX3_keep_56 : decode cX3_keep 56 = .ok (.iadd, 1) := by decide +kernel
theorem dX3_keep_57 : decode cX3_keep 57 = .ok (.iaload, 1) := by decide +kernel
theorem dX3_keep_58 : decode cX3_keep 58 = .ok (.iastore, 1) := by decide +kernel
theorem dX3_keep_59 : decode cX3_keep 59 = .ok (.iinc 1 1, 3) := by decide +kernel
theorem dX3_keep_62 : decode cX3_keep 62 = .ok (.goto (-22), 3) := by decide +kernel
theorem dX3_keep_65 : decode cX3_keep 65 = .ok (.aload_n 0, 1) := by decide +kernel
theorem dX3_keep_66 : decode cX3_keep 66 = .ok (.dup, 1) := by decide +kernel
theorem dX3_keep_67 : decode cX3_keep 67 = .ok (.getfield 143, 3) := by decide +kernel
theorem dX3_keep_70 : decode cX3_keep 70 = .ok (.iconst 1, 1) := by decide +kernel
theorem dX3_keep_71 : decode cX3_keep 71 = .ok (.isub, 1) := by decide +kernel
theorem dX3_keep_72 : decode cX3_keep 72 = .ok (.putfield 143, 3) := by decide +kernel
theorem dX3_keep_75 : decode cX3_keep 75 = .ok (.iconst 0, 1) := by decide +kernel
theorem dX3_keep_76 : decode cX3_keep 76 = .ok (.istore_n 1, 1) := by decide +kernel
theorem dX3_keep_77 : decode cX3_keep 77 = .ok (.iload_n 1, 1) := by decide +kernel
theorem dX3_keep_78 : decode cX3_keep 78 = .ok (.bipush 16, 2) := by decide +kernel
theorem dX3_keep_80 : decode cX3_keep 80 = .ok (.if_icmp .ge 29, 3) := by decide +kernel
theorem dX3_keep_83 : decode cX3_keep 83 = .ok (.aload_n 0, 1) := by decide +kernel
theorem dX3_keep_84 : decode cX3_keep 84 = .ok (.getfield 36, 3) := by decide +kernel
theorem dX3_keep_87 : decode cX3_keep 87 = .ok (.bipush 16, 2) := by decide +kernel
theorem dX3_keep_89 : decode cX3_keep 89 = .ok (.aload_n 0, 1) := by decide +kernel
theorem dX3_keep_90 : decode cX3_keep 90 = .ok (.getfield 143, 3) := by decide +kernel
theorem dX3_keep_93 : decode cX3_keep 93 = .ok (.imul, 1) := by decide +kernel
theorem dX3_keep_94 : decode cX3_keep 94 = .ok (.iload_n 1, 1) := by decide +kernel
theorem dX3_keep_95 : decode cX3_keep 95 = .ok (.iadd, 1) := by decide +kernel
theorem dX3_keep_96 : decode cX3_keep 96 = .ok (.aload_n 0, 1) := by decide +kernel
theorem dX3_keep_97 : decode cX3_keep 97 = .ok (.getfield 39, 3) := by decide +kernel
theorem dX3_keep_100 : decode cX3_keep 100 = .ok (.iload_n 1, 1) := by decide +kernel
theorem dX3_keep_101 : decode cX3_keep 101 = .ok (.laload, 1) := by decide +kernel
theorem dX3_keep_102 : decode cX3_keep 102 = .ok (.lastore, 1) := by decide +kernel
theorem dX3_keep_103 : decode cX3_keep 103 = .ok (.iinc 1 1, 3) := by decide +kernel
theorem dX3_keep_106 : decode cX3_keep 106 = .ok (.goto (-29), 3) := by decide +kernel
theorem dX3_keep_109 : decode cX3_keep 109 = .ok (.aload_n 0, 1) := by decide +kernel
theorem dX3_keep_110 : decode cX3_keep 110 = .ok (.getfield 42, 3) := by decide +kernel
theorem dX3_keep_113 : decode cX3_keep 113 = .ok (.aload_n 0, 1) := by decide +kernel
theorem dX3_keep_114 : decode cX3_keep 114 = .ok (.getfield 143, 3) := by decide +kernel
theorem dX3_keep_117 : decode cX3_keep 117 = .ok (.aload_n 0, 1) := by decide +kernel
theorem dX3_keep_118 : decode cX3_keep 118 = .ok (.getfield 51, 3) := by decide +kernel
theorem dX3_keep_121 : decode cX3_keep 121 = .ok (.iastore, 1) := by decide +kernel
theorem dX3_keep_122 : decode cX3_keep 122 = .ok (.aload_n 0, 1) := by decide +kernel
theorem dX3_keep_123 : decode cX3_keep 123 = .ok (.dup, 1) := by decide +kernel
theorem dX3_keep_124 : decode cX3_keep 124 = .ok (.getfield 143, 3) := by decide +kernel
theorem dX3_keep_127 : decode cX3_keep 127 = .ok (.iconst 1, 1) := by decide +kernel
theorem dX3_keep_128 : decode cX3_keep 128 = .ok (.iadd, 1) := by decide +kernel
theorem dX3_keep_129 : decode cX3_keep 129 = .ok (.putfield 143, 3) := by decide +kernel
theorem dX3_keep_132 : decode cX3_keep 132 = .ok (.return_, 1) := by decide +kernel
set_option maxRecDepth 20000 in
theorem ggX3_dial_X3_refused : GoodIn wsX3_dial wsX3_refused := goodIn_r _ [11, 2, 49, 50, 51, 52, 53, 54, 55, 56, 57, 58, 59, 60, 61, 62, 63, 64, 65, 66, 67] (by decide +kernel) (by decide +kernel)
set_option maxRecDepth 20000 in
theorem gX3_dial_X3_refused : GoodIn wsX3_dial (wsV RX3 146 RX3 yX3_refused wsX3_refused) := goodIn_app (goodIn_of _ (by decide +kernel)) ggX3_dial_X3_refused
set_option maxRecDepth 20000 in
theorem ggX3_dial_X3_isNumber : GoodIn wsX3_dial wsX3_isNumber := goodIn_r _ [15, 16, 17, 18, 19, 20, 21, 22, 10, 23, 24] (by decide +kernel) (by decide +kernel)
set_option maxRecDepth 20000 in
theorem gX3_dial_X3_isNumber : GoodIn wsX3_dial (wsV RX3 150 RX3 yX3_isNumber wsX3_isNumber) := goodIn_app (goodIn_of _ (by decide +kernel)) ggX3_dial_X3_isNumber
set_option maxRecDepth 20000 in
theorem ggX3_dial_X3_isAbove : GoodIn wsX3_dial wsX3_isAbove := goodIn_r _ [28, 29, 30, 31, 10, 32, 18, 16, 33, 34, 35, 36] (by decide +kernel) (by decide +kernel)
set_option maxRecDepth 20000 in
theorem gX3_dial_X3_isAbove : GoodIn wsX3_dial (wsV RX3 80 RX3 yX3_isAbove wsX3_isAbove) := goodIn_app (goodIn_of _ (by decide +kernel)) ggX3_dial_X3_isAbove
set_option maxRecDepth 20000 in
theorem ggX3_dial_X3_fitted : GoodIn wsX3_dial wsX3_fitted := goodIn_r _ [40, 3, 4, 5, 41, 42, 43, 10, 44, 25, 26, 27, 28, 29, 30, 31, 32, 18, 16, 33, 34, 35, 36, 45, 46, 47, 48, 49, 50, 51, 52, 53, 54, 55, 56, 57, 58, 59, 60, 61, 62, 63, 64, 65, 66, 67] (by decide +kernel) (by decide +kernel)
set_option maxRecDepth 20000 in
theorem gX3_dial_X3_fitted : GoodIn wsX3_dial (wsV RX3 116 RX3 yX3_fitted wsX3_fitted) := goodIn_app (goodIn_of _ (by decide +kernel)) ggX3_dial_X3_fitted
theorem dX3_dial_0 : decode cX3_dial 0 = .ok (.iload_n 1, 1) := by decide +kernel
theorem dX3_dial_1 : decode cX3_dial 1 = .ok (.ifCond .lt 8, 3) := by decide +kernel
theorem dX3_dial_4 : decode cX3_dial 4 = .ok (.iload_n 1, 1) := by decide +kernel
theorem dX3_dial_5 : decode cX3_dial 5 = .ok (.iconst 3, 1) := by decide +kernel
theorem dX3_dial_6 : decode cX3_dial 6 = .ok (.if_icmp .le 9, 3) := by decide +kernel
theorem dX3_dial_9 : decode cX3_dial 9 = .ok (.aload_n 0, 1) := by decide +kernel
theorem dX3_dial_10 : decode cX3_dial 10 = .ok (.iconst 2, 1) := by decide +kernel
theorem dX3_dial_11 : decode cX3_dial 11 = .ok (.invokevirtual 146, 3) := by decide +kernel
theorem dX3_dial_14 : decode cX3_dial 14 = .ok (.ireturn, 1) := by decide +kernel
theorem dX3_dial_15 : decode cX3_dial 15 = .ok (.aload_n 0, 1) := by decide +kernel
theorem dX3_dial_16 : decode cX3_dial 16 = .ok (.getfield 51, 3) := by decide +kernel
theorem dX3_dial_19 : decode cX3_dial 19 = .ok (.bipush 16, 2) := by decide +kernel
theorem dX3_dial_21 : decode cX3_dial 21 = .ok (.if_icmp .ne 9, 3) := by decide +kernel
theorem dX3_dial_24 : decode cX3_dial 24 = .ok (.aload_n 0, 1) := by decide +kernel
theorem dX3_dial_25 : decode cX3_dial 25 = .ok (.iconst 5, 1) := by decide +kernel
theorem dX3_dial_26 : decode cX3_dial 26 = .ok (.invokevirtual 146, 3) := by decide +kernel
theorem dX3_dial_29 : decode cX3_dial 29 = .ok (.ireturn, 1) := by decide +kernel
theorem dX3_dial_30 : decode cX3_dial 30 = .ok (.aload_n 0, 1) := by decide +kernel
theorem dX3_dial_31 : decode cX3_dial 31 = .ok (.iload_n 1, 1) := by decide +kernel
theorem dX3_dial_32 : decode cX3_dial 32 = .ok (.lload_n 2, 1) := by decide +kernel
theorem dX3_dial_33 : decode cX3_dial 33 = .ok (.invokevirtual 150, 3) := by decide +kernel
theorem dX3_dial_36 : decode cX3_dial 36 = .ok (.ifCond .eq 13, 3) := by decide +kernel
theorem dX3_dial_39 : decode cX3_dial 39 = .ok (.aload_n 0, 1) := by decide +kernel
theorem dX3_dial_40 : decode cX3_dial 40 = .ok (.iload_n 1, 1) := by decide +kernel
theorem dX3_dial_41 : decode cX3_dial 41 = .ok (.lload 4, 2) := by decide +kernel
theorem dX3_dial_43 : decode cX3_dial 43 = .ok (.invokevirtual 150, 3) := by decide +kernel
theorem dX3_dial_46 : decode cX3_dial 46 = .ok (.ifCond .ne 9, 3) := by decide +kernel
theorem dX3_dial_49 : decode cX3_dial 49 = .ok (.aload_n 0, 1) := by decide +kernel
theorem dX3_dial_50 : decode cX3_dial 50 = .ok (.iconst 3, 1) := by decide +kernel
theorem dX3_dial_51 : decode cX3_dial 51 = .ok (.invokevirtual 146, 3) := by decide +kernel
theorem dX3_dial_54 : decode cX3_dial 54 = .ok (.ireturn, 1) := by decide +kernel
theorem dX3_dial_55 : decode cX3_dial 55 = .ok (.aload_n 0, 1) := by decide +kernel
theorem dX3_dial_56 : decode cX3_dial 56 = .ok (.iload_n 1, 1) := by decide +kernel
theorem dX3_dial_57 : decode cX3_dial 57 = .ok (.lload_n 2, 1) := by decide +kernel
theorem dX3_dial_58 : decode cX3_dial 58 = .ok (.lload 4, 2) := by decide +kernel
theorem dX3_dial_60 : decode cX3_dial 60 = .ok (.invokevirtual 80, 3) := by decide +kernel
theorem dX3_dial_63 : decode cX3_dial 63 = .ok (.ifCond .eq 9, 3) := by decide +kernel
theorem dX3_dial_66 : decode cX3_dial 66 = .ok (.aload_n 0, 1) := by decide +kernel
theorem dX3_dial_67 : decode cX3_dial 67 = .ok (.iconst 4, 1) := by decide +kernel
theorem dX3_dial_68 : decode cX3_dial 68 = .ok (.invokevirtual 146, 3) := by decide +kernel
theorem dX3_dial_71 : decode cX3_dial 71 = .ok (.ireturn, 1) := by decide +kernel
theorem dX3_dial_72 : decode cX3_dial 72 = .ok (.aload_n 0, 1) := by decide +kernel
theorem dX3_dial_73 : decode cX3_dial 73 = .ok (.iconst 0, 1) := by decide +kernel
theorem dX3_dial_74 : decode cX3_dial 74 = .ok (.putfield 55, 3) := by decide +kernel
theorem dX3_dial_77 : decode cX3_dial 77 = .ok (.aload_n 0, 1) := by decide +kernel
theorem dX3_dial_78 : decode cX3_dial 78 = .ok (.getfield 7, 3) := by decide +kernel
theorem dX3_dial_81 : decode cX3_dial 81 = .ok (.aload_n 0, 1) := by decide +kernel
theorem dX3_dial_82 : decode cX3_dial 82 = .ok (.getfield 51, 3) := by decide +kernel
theorem dX3_dial_85 : decode cX3_dial 85 = .ok (.iload_n 1, 1) := by decide +kernel
theorem dX3_dial_86 : decode cX3_dial 86 = .ok (.iastore, 1) := by decide +kernel
theorem dX3_dial_87 : decode cX3_dial 87 = .ok (.aload_n 0, 1) := by decide +kernel
theorem dX3_dial_88 : decode cX3_dial 88 = .ok (.getfield 17, 3) := by decide +kernel
theorem dX3_dial_91 : decode cX3_dial 91 = .ok (.aload_n 0, 1) := by decide +kernel
theorem dX3_dial_92 : decode cX3_dial 92 = .ok (.getfield 51, 3) := by decide +kernel
theorem dX3_dial_95 : decode cX3_dial 95 = .ok (.lload_n 2, 1) := by decide +kernel
theorem dX3_dial_96 : decode cX3_dial 96 = .ok (.lastore, 1) := by decide +kernel
theorem dX3_dial_97 : decode cX3_dial 97 = .ok (.aload_n 0, 1) := by decide +kernel
theorem dX3_dial_98 : decode cX3_dial 98 = .ok (.getfield 20, 3) := by decide +kernel
theorem dX3_dial_101 : decode cX3_dial 101 = .ok (.aload_n 0, 1) := by decide +kernel
theorem dX3_dial_102 : decode cX3_dial 102 = .ok (.getfield 51, 3) := by decide +kernel
theorem dX3_dial_105 : decode cX3_dial 105 = .ok (.lload 4, 2) := by decide +kernel
theorem dX3_dial_107 : decode cX3_dial 107 = .ok (.lastore, 1) := by decide +kernel
theorem dX3_dial_108 : decode cX3_dial 108 = .ok (.aload_n 0, 1) := by decide +kernel
theorem dX3_dial_109 : decode cX3_dial 109 = .ok (.getfield 13, 3) := by decide +kernel
theorem dX3_dial_112 : decode cX3_dial 112 = .ok (.aload_n 0, 1) := by decide +kernel
theorem dX3_dial_113 : decode cX3_dial 113 = .ok (.getfield 51, 3) := by decide +kernel
theorem dX3_dial_116 : decode cX3_dial 116 = .ok (.aload_n 0, 1) := by decide +kernel
theorem dX3_dial_117 : decode cX3_dial 117 = .ok (.aload_n 0, 1) := by decide +kernel
theorem dX3_dial_118 : decode cX3_dial 118 = .ok (.getfield 51, 3) := by decide +kernel
theorem dX3_dial_121 : decode cX3_dial 121 = .ok (.lconst 0, 1) := by decide +kernel
theorem dX3_dial_122 : decode cX3_dial 122 = .ok (.invokevirtual 116, 3) := by decide +kernel
theorem dX3_dial_125 : decode cX3_dial 125 = .ok (.lastore, 1) := by decide +kernel
theorem dX3_dial_126 : decode cX3_dial 126 = .ok (.aload_n 0, 1) := by decide +kernel
theorem dX3_dial_127 : decode cX3_dial 127 = .ok (.dup, 1) := by decide +kernel
theorem dX3_dial_128 : decode cX3_dial 128 = .ok (.getfield 51, 3) := by decide +kernel
theorem dX3_dial_131 : decode cX3_dial 131 = .ok (.iconst 1, 1) := by decide +kernel
theorem dX3_dial_132 : decode cX3_dial 132 = .ok (.iadd, 1) := by decide +kernel
theorem dX3_dial_133 : decode cX3_dial 133 = .ok (.putfield 51, 3) := by decide +kernel
theorem dX3_dial_136 : decode cX3_dial 136 = .ok (.aload_n 0, 1) := by decide +kernel
theorem dX3_dial_137 : decode cX3_dial 137 = .ok (.getfield 51, 3) := by decide +kernel
theorem dX3_dial_140 : decode cX3_dial 140 = .ok (.iconst 1, 1) := by decide +kernel
theorem dX3_dial_141 : decode cX3_dial 141 = .ok (.isub, 1) := by decide +kernel
theorem dX3_dial_142 : decode cX3_dial 142 = .ok (.ireturn, 1) := by decide +kernel
set_option maxRecDepth 20000 in
theorem ggX3_reason_X3_isReal : GoodIn wsX3_reason wsX3_isReal := goodIn_r _ [6] (by decide +kernel) (by decide +kernel)
set_option maxRecDepth 20000 in
theorem gX3_reason_X3_isReal : GoodIn wsX3_reason (wsV RX3 72 RX3 yX3_isReal wsX3_isReal) := goodIn_app (goodIn_of _ (by decide +kernel)) ggX3_reason_X3_isReal
theorem dX3_reason_0 : decode cX3_reason 0 = .ok (.aload_n 0, 1) := by decide +kernel
theorem dX3_reason_1 : decode cX3_reason 1 = .ok (.getfield 7, 3) := by decide +kernel
theorem dX3_reason_4 : decode cX3_reason 4 = .ok (.iload_n 2, 1) := by decide +kernel
theorem dX3_reason_5 : decode cX3_reason 5 = .ok (.iaload, 1) := by decide +kernel
theorem dX3_reason_6 : decode cX3_reason 6 = .ok (.aload_n 0, 1) := by decide +kernel
theorem dX3_reason_7 : decode cX3_reason 7 = .ok (.getfield 7, 3) := by decide +kernel
theorem dX3_reason_10 : decode cX3_reason 10 = .ok (.iload_n 3, 1) := by decide +kernel
theorem dX3_reason_11 : decode cX3_reason 11 = .ok (.iaload, 1) := by decide +kernel
theorem dX3_reason_12 : decode cX3_reason 12 = .ok (.if_icmp .ne 8, 3) := by decide +kernel
theorem dX3_reason_15 : decode cX3_reason 15 = .ok (.iload_n 2, 1) := by decide +kernel
theorem dX3_reason_16 : decode cX3_reason 16 = .ok (.iload_n 3, 1) := by decide +kernel
theorem dX3_reason_17 : decode cX3_reason 17 = .ok (.if_icmp .ne 6, 3) := by decide +kernel
theorem dX3_reason_20 : decode cX3_reason 20 = .ok (.bipush 6, 2) := by decide +kernel
theorem dX3_reason_22 : decode cX3_reason 22 = .ok (.ireturn, 1) := by decide +kernel
theorem dX3_reason_23 : decode cX3_reason 23 = .ok (.iload_n 1, 1) := by decide +kernel
theorem dX3_reason_24 : decode cX3_reason 24 = .ok (.iconst 2, 1) := by decide +kernel
theorem dX3_reason_25 : decode cX3_reason 25 = .ok (.if_icmp .ne 20, 3) := by decide +kernel
theorem dX3_reason_28 : decode cX3_reason 28 = .ok (.aload_n 0, 1) := by decide +kernel
theorem dX3_reason_29 : decode cX3_reason 29 = .ok (.aload_n 0, 1) := by decide +kernel
theorem dX3_reason_30 : decode cX3_reason 30 = .ok (.getfield 7, 3) := by decide +kernel
theorem dX3_reason_33 : decode cX3_reason 33 = .ok (.iload_n 2, 1) := by decide +kernel
theorem dX3_reason_34 : decode cX3_reason 34 = .ok (.iaload, 1) := by decide +kernel
theorem dX3_reason_35 : decode cX3_reason 35 = .ok (.invokevirtual 72, 3) := by decide +kernel
theorem dX3_reason_38 : decode cX3_reason 38 = .ok (.ifCond .ne 7, 3) := by decide +kernel
theorem dX3_reason_41 : decode cX3_reason 41 = .ok (.iconst 2, 1) := by decide +kernel
theorem dX3_reason_42 : decode cX3_reason 42 = .ok (.goto 4, 3) := by decide +kernel
theorem dX3_reason_45 : decode cX3_reason 45 = .ok (.iconst 0, 1) := by decide +kernel
theorem dX3_reason_46 : decode cX3_reason 46 = .ok (.ireturn, 1) := by decide +kernel
set_option maxRecDepth 20000 in
theorem ggX3_rod_X3_refused : GoodIn wsX3_rod wsX3_refused := goodIn_r _ [10, 2, 25, 26, 27, 28, 29, 30, 31, 32, 33, 34, 35, 36, 37, 38, 39, 40, 41, 42, 43] (by decide +kernel) (by decide +kernel)
set_option maxRecDepth 20000 in
theorem gX3_rod_X3_refused : GoodIn wsX3_rod (wsV RX3 146 RX3 yX3_refused wsX3_refused) := goodIn_app (goodIn_of _ (by decide +kernel)) ggX3_rod_X3_refused
set_option maxRecDepth 20000 in
theorem ggX3_rod_X3_isDial : GoodIn wsX3_rod wsX3_isDial := goodIn_r _ [14, 15, 25, 26, 27, 28, 29, 30, 31, 32, 33, 34, 35, 36, 37, 38, 39, 40, 41, 42, 43] (by decide +kernel) (by decide +kernel)
set_option maxRecDepth 20000 in
theorem gX3_rod_X3_isDial : GoodIn wsX3_rod (wsV RX3 153 RX3 yX3_isDial wsX3_isDial) := goodIn_app (goodIn_of _ (by decide +kernel)) ggX3_rod_X3_isDial
set_option maxRecDepth 20000 in
theorem ggX3_rod_X3_reason : GoodIn wsX3_rod wsX3_reason := goodIn_r _ [19, 20, 21, 22, 23, 9, 24, 25, 26, 27, 28, 29, 30, 31, 32, 33, 34, 35, 36, 37, 38, 39, 40, 41, 42, 43] (by decide +kernel) (by decide +kernel)
set_option maxRecDepth 20000 in
theorem gX3_rod_X3_reason : GoodIn wsX3_rod (wsV RX3 156 RX3 yX3_reason wsX3_reason) := goodIn_app (goodIn_of _ (by decide +kernel)) ggX3_rod_X3_reason
theorem dX3_rod_0 : decode cX3_rod 0 = .ok (.iload_n 1, 1) := by decide +kernel
theorem dX3_rod_1 : decode cX3_rod 1 = .ok (.ifCond .lt 8, 3) := by decide +kernel
theorem dX3_rod_4 : decode cX3_rod 4 = .ok (.iload_n 1, 1) := by decide +kernel
theorem dX3_rod_5 : decode cX3_rod 5 = .ok (.iconst 3, 1) := by decide +kernel
theorem dX3_rod_6 : decode cX3_rod 6 = .ok (.if_icmp .le 9, 3) := by decide +kernel
theorem dX3_rod_9 : decode cX3_rod 9 = .ok (.aload_n 0, 1) := by decide +kernel
theorem dX3_rod_10 : decode cX3_rod 10 = .ok (.iconst 2, 1) := by decide +kernel
theorem dX3_rod_11 : decode cX3_rod 11 = .ok (.invokevirtual 146, 3) := by decide +kernel
theorem dX3_rod_14 : decode cX3_rod 14 = .ok (.ireturn, 1) := by decide +kernel
theorem dX3_rod_15 : decode cX3_rod 15 = .ok (.aload_n 0, 1) := by decide +kernel
theorem dX3_rod_16 : decode cX3_rod 16 = .ok (.iload_n 2, 1) := by decide +kernel
theorem dX3_rod_17 : decode cX3_rod 17 = .ok (.invokevirtual 153, 3) := by decide +kernel
theorem dX3_rod_20 : decode cX3_rod 20 = .ok (.ifCond .eq 11, 3) := by decide +kernel
theorem dX3_rod_23 : decode cX3_rod 23 = .ok (.aload_n 0, 1) := by decide +kernel
theorem dX3_rod_24 : decode cX3_rod 24 = .ok (.iload_n 3, 1) := by decide +kernel
theorem dX3_rod_25 : decode cX3_rod 25 = .ok (.invokevirtual 153, 3) := by decide +kernel
theorem dX3_rod_28 : decode cX3_rod 28 = .ok (.ifCond .ne 9, 3) := by decide +kernel
theorem dX3_rod_31 : decode cX3_rod 31 = .ok (.aload_n 0, 1) := by decide +kernel
theorem dX3_rod_32 : decode cX3_rod 32 = .ok (.iconst 1, 1) := by decide +kernel
theorem dX3_rod_33 : decode cX3_rod 33 = .ok (.invokevirtual 146, 3) := by decide +kernel
theorem dX3_rod_36 : decode cX3_rod 36 = .ok (.ireturn, 1) := by decide +kernel
theorem dX3_rod_37 : decode cX3_rod 37 = .ok (.aload_n 0, 1) := by decide +kernel
theorem dX3_rod_38 : decode cX3_rod 38 = .ok (.iload_n 1, 1) := by decide +kernel
theorem dX3_rod_39 : decode cX3_rod 39 = .ok (.iload_n 2, 1) := by decide +kernel
theorem dX3_rod_40 : decode cX3_rod 40 = .ok (.iload_n 3, 1) := by decide +kernel
theorem dX3_rod_41 : decode cX3_rod 41 = .ok (.invokevirtual 156, 3) := by decide +kernel
theorem dX3_rod_44 : decode cX3_rod 44 = .ok (.istore 4, 2) := by decide +kernel
theorem dX3_rod_46 : decode cX3_rod 46 = .ok (.iload 4, 2) := by decide +kernel
theorem dX3_rod_48 : decode cX3_rod 48 = .ok (.ifCond .le 10, 3) := by decide +kernel
theorem dX3_rod_51 : decode cX3_rod 51 = .ok (.aload_n 0, 1) := by decide +kernel
theorem dX3_rod_52 : decode cX3_rod 52 = .ok (.iload 4, 2) := by decide +kernel
theorem dX3_rod_54 : decode cX3_rod 54 = .ok (.invokevirtual 146, 3) := by decide +kernel
theorem dX3_rod_57 : decode cX3_rod 57 = .ok (.ireturn, 1) := by decide +kernel
theorem dX3_rod_58 : decode cX3_rod 58 = .ok (.aload_n 0, 1) := by decide +kernel
theorem dX3_rod_59 : decode cX3_rod 59 = .ok (.getfield 126, 3) := by decide +kernel
theorem dX3_rod_62 : decode cX3_rod 62 = .ok (.bipush 24, 2) := by decide +kernel
theorem dX3_rod_64 : decode cX3_rod 64 = .ok (.if_icmp .ne 9, 3) := by decide +kernel
theorem dX3_rod_67 : decode cX3_rod 67 = .ok (.aload_n 0, 1) := by decide +kernel
theorem dX3_rod_68 : decode cX3_rod 68 = .ok (.iconst 5, 1) := by decide +kernel
theorem dX3_rod_69 : decode cX3_rod 69 = .ok (.invokevirtual 146, 3) := by decide +kernel
theorem dX3_rod_72 : decode cX3_rod 72 = .ok (.ireturn, 1) := by decide +kernel
theorem dX3_rod_73 : decode cX3_rod 73 = .ok (.aload_n 0, 1) := by decide +kernel
theorem dX3_rod_74 : decode cX3_rod 74 = .ok (.iconst 0, 1) := by decide +kernel
theorem dX3_rod_75 : decode cX3_rod 75 = .ok (.putfield 55, 3) := by decide +kernel
theorem dX3_rod_78 : decode cX3_rod 78 = .ok (.aload_n 0, 1) := by decide +kernel
theorem dX3_rod_79 : decode cX3_rod 79 = .ok (.getfield 23, 3) := by decide +kernel
theorem dX3_rod_82 : decode cX3_rod 82 = .ok (.aload_n 0, 1) := by decide +kernel
theorem dX3_rod_83 : decode cX3_rod 83 = .ok (.getfield 126, 3) := by decide +kernel
theorem dX3_rod_86 : decode cX3_rod 86 = .ok (.iload_n 1, 1) := by decide +kernel
theorem dX3_rod_87 : decode cX3_rod 87 = .ok (.iastore, 1) := by decide +kernel
theorem dX3_rod_88 : decode cX3_rod 88 = .ok (.aload_n 0, 1) := by decide +kernel
theorem dX3_rod_89 : decode cX3_rod 89 = .ok (.getfield 26, 3) := by decide +kernel
theorem dX3_rod_92 : decode cX3_rod 92 = .ok (.aload_n 0, 1) := by decide +kernel
theorem dX3_rod_93 : decode cX3_rod 93 = .ok (.getfield 126, 3) := by decide +kernel
theorem dX3_rod_96 : decode cX3_rod 96 = .ok (.iload_n 2, 1) := by decide +kernel
theorem dX3_rod_97 : decode cX3_rod 97 = .ok (.iastore, 1) := by decide +kernel
theorem dX3_rod_98 : decode cX3_rod 98 = .ok (.aload_n 0, 1) := by decide +kernel
theorem dX3_rod_99 : decode cX3_rod 99 = .ok (.getfield 29, 3) := by decide +kernel
theorem dX3_rod_102 : decode cX3_rod 102 = .ok (.aload_n 0, 1) := by decide +kernel
theorem dX3_rod_103 : decode cX3_rod 103 = .ok (.getfield 126, 3) := by decide +kernel
theorem dX3_rod_106 : decode cX3_rod 106 = .ok (.iload_n 3, 1) := by decide +kernel
theorem dX3_rod_107 : decode cX3_rod 107 = .ok (.iastore, 1) := by decide +kernel
theorem dX3_rod_108 : decode cX3_rod 108 = .ok (.aload_n 0, 1) := by decide +kernel
theorem dX3_rod_109 : decode cX3_rod 109 = .ok (.dup, 1) := by decide +kernel
theorem dX3_rod_110 : decode cX3_rod 110 = .ok (.getfield 126, 3) := by decide +kernel
theorem dX3_rod_113 : decode cX3_rod 113 = .ok (.iconst 1, 1) := by decide +kernel
theorem dX3_rod_114 : decode cX3_rod 114 = .ok (.iadd, 1) := by decide +kernel
theorem dX3_rod_115 : decode cX3_rod 115 = .ok (.putfield 126, 3) := by decide +kernel
theorem dX3_rod_118 : decode cX3_rod 118 = .ok (.aload_n 0, 1) := by decide +kernel
theorem dX3_rod_119 : decode cX3_rod 119 = .ok (.getfield 126, 3) := by decide +kernel
theorem dX3_rod_122 : decode cX3_rod 122 = .ok (.iconst 1, 1) := by decide +kernel
theorem dX3_rod_123 : decode cX3_rod 123 = .ok (.isub, 1) := by decide +kernel
theorem dX3_rod_124 : decode cX3_rod 124 = .ok (.ireturn, 1) := by decide +kernel
set_option maxRecDepth 20000 in
theorem ggX3_set_X3_isDial : GoodIn wsX3_set wsX3_isDial := goodIn_r _ [6, 7, 100, 101, 102, 103, 104, 105, 106, 107, 108, 109, 110, 111, 112, 113, 114, 115, 116, 117, 118] (by decide +kernel) (by decide +kernel)
set_option maxRecDepth 20000 in
theorem gX3_set_X3_isDial : GoodIn wsX3_set (wsV RX3 153 RX3 yX3_isDial wsX3_isDial) := goodIn_app (goodIn_of _ (by decide +kernel)) ggX3_set_X3_isDial
set_option maxRecDepth 20000 in
theorem ggX3_set_X3_refused : GoodIn wsX3_set wsX3_refused := goodIn_r _ [11, 12, 100, 101, 102, 103, 104, 105, 106, 107, 108, 109, 110, 111, 112, 113, 114, 115, 116, 117, 118] (by decide +kernel) (by decide +kernel)
set_option maxRecDepth 20000 in
theorem gX3_set_X3_refused : GoodIn wsX3_set (wsV RX3 146 RX3 yX3_refused wsX3_refused) := goodIn_app (goodIn_of _ (by decide +kernel)) ggX3_set_X3_refused
set_option maxRecDepth 20000 in
theorem ggX3_set_X3_isNumber : GoodIn wsX3_set wsX3_isNumber := goodIn_r _ [16, 17, 18, 19, 20, 21, 22, 23, 5, 24, 25] (by decide +kernel) (by decide +kernel)
set_option maxRecDepth 20000 in
theorem gX3_set_X3_isNumber : GoodIn wsX3_set (wsV RX3 150 RX3 yX3_isNumber wsX3_isNumber) := goodIn_app (goodIn_of _ (by decide +kernel)) ggX3_set_X3_isNumber
set_option maxRecDepth 20000 in
theorem ggX3_set_X3_call : GoodIn wsX3_set wsX3_call := goodIn_r _ [29, 12, 30, 31, 32, 33, 34, 35, 36, 37, 5, 38, 39, 40, 41, 42, 43, 44, 45, 46, 47, 48, 49, 50, 51, 52, 1, 53, 54, 55, 56, 57, 58, 59, 60, 61, 62, 63, 64, 65, 66, 19, 17, 67, 68, 69, 70, 71, 72, 73, 74, 75, 76, 77, 78, 79, 80, 81, 82, 83, 84, 85, 86, 87, 88, 89, 90, 91, 92, 25, 93, 94, 95, 96, 97, 98, 99, 7, 100, 101, 102, 103, 104, 105, 106, 107, 108, 109, 110, 111, 112, 113, 114, 115, 116, 117, 118] (by decide +kernel) (by decide +kernel)
set_option maxRecDepth 20000 in
theorem gX3_set_X3_call : GoodIn wsX3_set (wsV RX3 160 RX3 yX3_call wsX3_call) := goodIn_app (goodIn_of _ (by decide +kernel)) ggX3_set_X3_call
theorem dX3_set_0 : decode cX3_set 0 = .ok (.aload_n 0, 1) := by decide +kernel
theorem dX3_set_1 : decode cX3_set 1 = .ok (.iload_n 1, 1) := by decide +kernel
theorem dX3_set_2 : decode cX3_set 2 = .ok (.invokevirtual 153, 3) := by decide +kernel
theorem dX3_set_5 : decode cX3_set 5 = .ok (.ifCond .ne 9, 3) := by decide +kernel
theorem dX3_set_8 : decode cX3_set 8 = .ok (.aload_n 0, 1) := by decide +kernel
theorem dX3_set_9 : decode cX3_set 9 = .ok (.iconst 1, 1) := by decide +kernel
theorem dX3_set_10 : decode cX3_set 10 = .ok (.invokevirtual 146, 3) := by decide +kernel
theorem dX3_set_13 : decode cX3_set 13 = .ok (.ireturn, 1) := by decide +kernel
theorem dX3_set_14 : decode cX3_set 14 = .ok (.aload_n 0, 1) := by decide +kernel
theorem dX3_set_15 : decode cX3_set 15 = .ok (.aload_n 0, 1) := by decide +kernel
theorem dX3_set_16 : decode cX3_set 16 = .ok (.getfield 7, 3) := by decide +kernel
theorem dX3_set_19 : decode cX3_set 19 = .ok (.iload_n 1, 1) := by decide +kernel
theorem dX3_set_20 : decode cX3_set 20 = .ok (.iaload, 1) := by decide +kernel
theorem dX3_set_21 : decode cX3_set 21 = .ok (.lload_n 2, 1) := by decide +kernel
theorem dX3_set_22 : decode cX3_set 22 = .ok (.invokevirtual 150, 3) := by decide +kernel
theorem dX3_set_25 : decode cX3_set 25 = .ok (.ifCond .ne 9, 3) := by decide +kernel
theorem dX3_set_28 : decode cX3_set 28 = .ok (.aload_n 0, 1) := by decide +kernel
theorem dX3_set_29 : decode cX3_set 29 = .ok (.iconst 3, 1) := by decide +kernel
theorem dX3_set_30 : decode cX3_set 30 = .ok (.invokevirtual 146, 3) := by decide +kernel
theorem dX3_set_33 : decode cX3_set 33 = .ok (.ireturn, 1) := by decide +kernel
theorem dX3_set_34 : decode cX3_set 34 = .ok (.aload_n 0, 1) := by decide +kernel
theorem dX3_set_35 : decode cX3_set 35 = .ok (.iload_n 1, 1) := by decide +kernel
theorem dX3_set_36 : decode cX3_set 36 = .ok (.lload_n 2, 1) := by decide +kernel
theorem dX3_set_37 : decode cX3_set 37 = .ok (.invokevirtual 160, 3) := by decide +kernel
theorem dX3_set_40 : decode cX3_set 40 = .ok (.ireturn, 1) := by decide +kernel
set_option maxRecDepth 20000 in
theorem ggX3_turn_X3_isDial : GoodIn wsX3_turn wsX3_isDial := goodIn_r _ [7, 8, 104, 105, 106, 107, 108, 109, 110, 111, 112, 113, 114, 115, 116, 117, 118, 119, 120, 121, 122] (by decide +kernel) (by decide +kernel)
set_option maxRecDepth 20000 in
theorem gX3_turn_X3_isDial : GoodIn wsX3_turn (wsV RX3 153 RX3 yX3_isDial wsX3_isDial) := goodIn_app (goodIn_of _ (by decide +kernel)) ggX3_turn_X3_isDial
set_option maxRecDepth 20000 in
theorem ggX3_turn_X3_refused : GoodIn wsX3_turn wsX3_refused := goodIn_r _ [12, 13, 104, 105, 106, 107, 108, 109, 110, 111, 112, 113, 114, 115, 116, 117, 118, 119, 120, 121, 122] (by decide +kernel) (by decide +kernel)
set_option maxRecDepth 20000 in
theorem gX3_turn_X3_refused : GoodIn wsX3_turn (wsV RX3 146 RX3 yX3_refused wsX3_refused) := goodIn_app (goodIn_of _ (by decide +kernel)) ggX3_turn_X3_refused
set_option maxRecDepth 20000 in
theorem ggX3_turn_X3_isReal : GoodIn wsX3_turn wsX3_isReal := goodIn_r _ [17] (by decide +kernel) (by decide +kernel)
set_option maxRecDepth 20000 in
theorem gX3_turn_X3_isReal : GoodIn wsX3_turn (wsV RX3 72 RX3 yX3_isReal wsX3_isReal) := goodIn_app (goodIn_of _ (by decide +kernel)) ggX3_turn_X3_isReal
set_option maxRecDepth 20000 in
theorem ggX3_turn_X3_turned : GoodIn wsX3_turn wsX3_turned := goodIn_r _ [21, 22, 23, 24, 6, 25, 26, 27, 14, 15, 16, 17, 28, 29, 30, 31, 32, 33, 34, 35, 36, 37, 38, 39, 40, 41, 42, 43, 44, 45, 46, 47, 48] (by decide +kernel) (by decide +kernel)
set_option maxRecDepth 20000 in
theorem gX3_turn_X3_turned : GoodIn wsX3_turn (wsV RX3 164 RX3 yX3_turned wsX3_turned) := goodIn_app (goodIn_of _ (by decide +kernel)) ggX3_turn_X3_turned
set_option maxRecDepth 20000 in
theorem ggX3_turn_X3_call : GoodIn wsX3_turn wsX3_call := goodIn_r _ [52, 13, 53, 54, 2, 55, 56, 57, 58, 59, 6, 60, 61, 62, 63, 64, 65, 66, 67, 68, 69, 70, 71, 72, 73, 74, 1, 75, 76, 77, 78, 79, 80, 81, 82, 83, 84, 85, 86, 87, 88, 32, 33, 14, 15, 16, 17, 89, 90, 91, 92, 93, 94, 95, 96, 28, 29, 30, 31, 44, 45, 46, 47, 48, 27, 22, 23, 24, 25, 26, 97, 98, 99, 100, 101, 102, 103, 8, 104, 105, 106, 107, 108, 109, 110, 111, 112, 113, 114, 115, 116, 117, 118, 119, 120, 121, 122] (by decide +kernel) (by decide +kernel)
set_option maxRecDepth 20000 in
theorem gX3_turn_X3_call : GoodIn wsX3_turn (wsV RX3 160 RX3 yX3_call wsX3_call) := goodIn_app (goodIn_of _ (by decide +kernel)) ggX3_turn_X3_call
theorem dX3_turn_0 : decode cX3_turn 0 = .ok (.aload_n 0, 1) := by decide +kernel
theorem dX3_turn_1 : decode cX3_turn 1 = .ok (.iload_n 1, 1) := by decide +kernel
theorem dX3_turn_2 : decode cX3_turn 2 = .ok (.invokevirtual 153, 3) := by decide +kernel
theorem dX3_turn_5 : decode cX3_turn 5 = .ok (.ifCond .ne 9, 3) := by decide +kernel
theorem dX3_turn_8 : decode cX3_turn 8 = .ok (.aload_n 0, 1) := by decide +kernel
theorem dX3_turn_9 : decode cX3_turn 9 = .ok (.iconst 1, 1) := by decide +kernel
theorem dX3_turn_10 : decode cX3_turn 10 = .ok (.invokevirtual 146, 3) := by decide +kernel
theorem dX3_turn_13 : decode cX3_turn 13 = .ok (.ireturn, 1) := by decide +kernel
theorem dX3_turn_14 : decode cX3_turn 14 = .ok (.iload_n 2, 1) := by decide +kernel
theorem dX3_turn_15 : decode cX3_turn 15 = .ok (.ifCond .lt 25, 3) := by decide +kernel
theorem dX3_turn_18 : decode cX3_turn 18 = .ok (.iload_n 2, 1) := by decide +kernel
theorem dX3_turn_19 : decode cX3_turn 19 = .ok (.iconst 4, 1) := by decide +kernel
theorem dX3_turn_20 : decode cX3_turn 20 = .ok (.if_icmp .gt 20, 3) := by decide +kernel
theorem dX3_turn_23 : decode cX3_turn 23 = .ok (.iload_n 2, 1) := by decide +kernel
theorem dX3_turn_24 : decode cX3_turn 24 = .ok (.ifCond .le 22, 3) := by decide +kernel
theorem dX3_turn_27 : decode cX3_turn 27 = .ok (.aload_n 0, 1) := by decide +kernel
theorem dX3_turn_28 : decode cX3_turn 28 = .ok (.aload_n 0, 1) := by decide +kernel
theorem dX3_turn_29 : decode cX3_turn 29 = .ok (.getfield 7, 3) := by decide +kernel
theorem dX3_turn_32 : decode cX3_turn 32 = .ok (.iload_n 1, 1) := by decide +kernel
theorem dX3_turn_33 : decode cX3_turn 33 = .ok (.iaload, 1) := by decide +kernel
theorem dX3_turn_34 : decode cX3_turn 34 = .ok (.invokevirtual 72, 3) := by decide +kernel
theorem dX3_turn_37 : decode cX3_turn 37 = .ok (.ifCond .ne 9, 3) := by decide +kernel
theorem dX3_turn_40 : decode cX3_turn 40 = .ok (.aload_n 0, 1) := by decide +kernel
theorem dX3_turn_41 : decode cX3_turn 41 = .ok (.iconst 2, 1) := by decide +kernel
theorem dX3_turn_42 : decode cX3_turn 42 = .ok (.invokevirtual 146, 3) := by decide +kernel
theorem dX3_turn_45 : decode cX3_turn 45 = .ok (.ireturn, 1) := by decide +kernel
theorem dX3_turn_46 : decode cX3_turn 46 = .ok (.aload_n 0, 1) := by decide +kernel
theorem dX3_turn_47 : decode cX3_turn 47 = .ok (.iload_n 1, 1) := by decide +kernel
theorem dX3_turn_48 : decode cX3_turn 48 = .ok (.aload_n 0, 1) := by decide +kernel
theorem dX3_turn_49 : decode cX3_turn 49 = .ok (.aload_n 0, 1) := by decide +kernel
theorem dX3_turn_50 : decode cX3_turn 50 = .ok (.getfield 7, 3) := by decide +kernel
theorem dX3_turn_53 : decode cX3_turn 53 = .ok (.iload_n 1, 1) := by decide +kernel
theorem dX3_turn_54 : decode cX3_turn 54 = .ok (.iaload, 1) := by decide +kernel
theorem dX3_turn_55 : decode cX3_turn 55 = .ok (.aload_n 0, 1) := by decide +kernel
theorem dX3_turn_56 : decode cX3_turn 56 = .ok (.getfield 13, 3) := by decide +kernel
theorem dX3_turn_59 : decode cX3_turn 59 = .ok (.iload_n 1, 1) := by decide +kernel
theorem dX3_turn_60 : decode cX3_turn 60 = .ok (.laload, 1) := by decide +kernel
theorem dX3_turn_61 : decode cX3_turn 61 = .ok (.iload_n 2, 1) := by decide +kernel
theorem dX3_turn_62 : decode cX3_turn 62 = .ok (.invokevirtual 164, 3) := by decide +kernel
theorem dX3_turn_65 : decode cX3_turn 65 = .ok (.invokevirtual 160, 3) := by decide +kernel
theorem dX3_turn_68 : decode cX3_turn 68 = .ok (.ireturn, 1) := by decide +kernel
set_option maxRecDepth 20000 in
theorem ggX3_take_X3_isDial : GoodIn wsX3_take wsX3_isDial := goodIn_r _ [5, 6, 94, 95, 96, 97, 98, 99, 100, 101, 102, 103, 104, 105, 106, 107, 108, 109, 110, 111, 112] (by decide +kernel) (by decide +kernel)
set_option maxRecDepth 20000 in
theorem gX3_take_X3_isDial : GoodIn wsX3_take (wsV RX3 153 RX3 yX3_isDial wsX3_isDial) := goodIn_app (goodIn_of _ (by decide +kernel)) ggX3_take_X3_isDial
set_option maxRecDepth 20000 in
theorem ggX3_take_X3_refused : GoodIn wsX3_take wsX3_refused := goodIn_r _ [10, 11, 94, 95, 96, 97, 98, 99, 100, 101, 102, 103, 104, 105, 106, 107, 108, 109, 110, 111, 112] (by decide +kernel) (by decide +kernel)
set_option maxRecDepth 20000 in
theorem gX3_take_X3_refused : GoodIn wsX3_take (wsV RX3 146 RX3 yX3_refused wsX3_refused) := goodIn_app (goodIn_of _ (by decide +kernel)) ggX3_take_X3_refused
set_option maxRecDepth 20000 in
theorem ggX3_take_X3_reason : GoodIn wsX3_take wsX3_reason := goodIn_r _ [15, 16, 17, 18, 19, 4, 20, 94, 95, 96, 97, 98, 99, 100, 101, 102, 103, 104, 105, 106, 107, 108, 109, 110, 111, 112] (by decide +kernel) (by decide +kernel)
set_option maxRecDepth 20000 in
theorem gX3_take_X3_reason : GoodIn wsX3_take (wsV RX3 156 RX3 yX3_reason wsX3_reason) := goodIn_app (goodIn_of _ (by decide +kernel)) ggX3_take_X3_reason
set_option maxRecDepth 20000 in
theorem ggX3_take_X3_gives : GoodIn wsX3_take wsX3_gives := goodIn_r _ [24, 16, 25, 26, 27, 28, 4, 29, 30, 31, 32, 33, 34, 35, 36, 37, 38, 39, 17, 18, 19, 20, 40, 41, 42, 43, 44, 45, 46, 47, 48, 49, 50, 51, 52, 53, 54, 55, 56, 57, 58, 94, 95, 96, 97, 98, 99, 100, 101, 102, 103, 104, 105, 106, 107, 108, 109, 110, 111, 112] (by decide +kernel) (by decide +kernel)
set_option maxRecDepth 20000 in
theorem gX3_take_X3_gives : GoodIn wsX3_take (wsV RX3 129 RX3 yX3_gives wsX3_gives) := goodIn_app (goodIn_of _ (by decide +kernel)) ggX3_take_X3_gives
set_option maxRecDepth 20000 in
theorem ggX3_take_X3_call : GoodIn wsX3_take wsX3_call := goodIn_r _ [62, 11, 63, 64, 25, 65, 66, 67, 68, 69, 4, 70, 71, 72, 73, 74, 75, 76, 77, 78, 79, 80, 81, 82, 83, 84, 16, 85, 86, 40, 41, 42, 43, 30, 31, 32, 33, 34, 35, 36, 37, 38, 39, 17, 18, 19, 20, 26, 27, 28, 29, 21, 22, 23, 24, 44, 45, 46, 47, 48, 49, 50, 51, 52, 53, 54, 55, 56, 57, 58, 87, 88, 89, 90, 91, 92, 93, 6, 94, 95, 96, 97, 98, 99, 100, 101, 102, 103, 104, 105, 106, 107, 108, 109, 110, 111, 112] (by decide +kernel) (by decide +kernel)
set_option maxRecDepth 20000 in
theorem gX3_take_X3_call : GoodIn wsX3_take (wsV RX3 160 RX3 yX3_call wsX3_call) := goodIn_app (goodIn_of _ (by decide +kernel)) ggX3_take_X3_call
theorem dX3_take_0 : decode cX3_take 0 = .ok (.aload_n 0, 1) := by decide +kernel
theorem dX3_take_1 : decode cX3_take 1 = .ok (.iload_n 1, 1) := by decide +kernel
theorem dX3_take_2 : decode cX3_take 2 = .ok (.invokevirtual 153, 3) := by decide +kernel
theorem dX3_take_5 : decode cX3_take 5 = .ok (.ifCond .eq 11, 3) := by decide +kernel
theorem dX3_take_8 : decode cX3_take 8 = .ok (.aload_n 0, 1) := by decide +kernel
theorem dX3_take_9 : decode cX3_take 9 = .ok (.iload_n 2, 1) := by decide +kernel
theorem dX3_take_10 : decode cX3_take 10 = .ok (.invokevirtual 153, 3) := by decide +kernel
theorem dX3_take_13 : decode cX3_take 13 = .ok (.ifCond .ne 9, 3) := by decide +kernel
theorem dX3_take_16 : decode cX3_take 16 = .ok (.aload_n 0, 1) := by decide +kernel
theorem dX3_take_17 : decode cX3_take 17 = .ok (.iconst 1, 1) := by decide +kernel
theorem dX3_take_18 : decode cX3_take 18 = .ok (.invokevirtual 146, 3) := by decide +kernel
end
section
theorem dX3_take_21 : decode cX3_take 21 = .ok (.ireturn, 1) := by decide +kernel
theorem dX3_take_22 : decode cX3_take 22 = .ok (.iload_n 3, 1) := by decide +kernel
theorem dX3_take_23 : decode cX3_take 23 = .ok (.ifCond .lt 8, 3) := by decide +kernel
theorem dX3_take_26 : decode cX3_take 26 = .ok (.iload_n 3, 1) := by decide +kernel
theorem dX3_take_27 : decode cX3_take 27 = .ok (.iconst 3, 1) := by decide +kernel
theorem dX3_take_28 : decode cX3_take 28 = .ok (.if_icmp .le 9, 3) := by decide +kernel
theorem dX3_take_31 : decode cX3_take 31 = .ok (.aload_n 0, 1) := by decide +kernel
theorem dX3_take_32 : decode cX3_take 32 = .ok (.iconst 2, 1) := by decide +kernel
theorem dX3_take_33 : decode cX3_take 33 = .ok (.invokevirtual 146, 3) := by decide +kernel
theorem dX3_take_36 : decode cX3_take 36 = .ok (.ireturn, 1) := by decide +kernel
theorem dX3_take_37 : decode cX3_take 37 = .ok (.aload_n 0, 1) := by decide +kernel
theorem dX3_take_38 : decode cX3_take 38 = .ok (.iload_n 3, 1) := by decide +kernel
theorem dX3_take_39 : decode cX3_take 39 = .ok (.iload_n 2, 1) := by decide +kernel
theorem dX3_take_40 : decode cX3_take 40 = .ok (.iload_n 1, 1) := by decide +kernel
theorem dX3_take_41 : decode cX3_take 41 = .ok (.invokevirtual 156, 3) := by decide +kernel
theorem dX3_take_44 : decode cX3_take 44 = .ok (.istore 4, 2) := by decide +kernel
theorem dX3_take_46 : decode cX3_take 46 = .ok (.iload 4, 2) := by decide +kernel
theorem dX3_take_48 : decode cX3_take 48 = .ok (.ifCond .le 10, 3) := by decide +kernel
theorem dX3_take_51 : decode cX3_take 51 = .ok (.aload_n 0, 1) := by decide +kernel
theorem dX3_take_52 : decode cX3_take 52 = .ok (.iload 4, 2) := by decide +kernel
theorem dX3_take_54 : decode cX3_take 54 = .ok (.invokevirtual 146, 3) := by decide +kernel
theorem dX3_take_57 : decode cX3_take 57 = .ok (.ireturn, 1) := by decide +kernel
theorem dX3_take_58 : decode cX3_take 58 = .ok (.aload_n 0, 1) := by decide +kernel
theorem dX3_take_59 : decode cX3_take 59 = .ok (.iload_n 1, 1) := by decide +kernel
theorem dX3_take_60 : decode cX3_take 60 = .ok (.aload_n 0, 1) := by decide +kernel
theorem dX3_take_61 : decode cX3_take 61 = .ok (.iload_n 3, 1) := by decide +kernel
theorem dX3_take_62 : decode cX3_take 62 = .ok (.iload_n 2, 1) := by decide +kernel
theorem dX3_take_63 : decode cX3_take 63 = .ok (.iload_n 1, 1) := by decide +kernel
theorem dX3_take_64 : decode cX3_take 64 = .ok (.invokevirtual 129, 3) := by decide +kernel
theorem dX3_take_67 : decode cX3_take 67 = .ok (.invokevirtual 160, 3) := by decide +kernel
theorem dX3_take_70 : decode cX3_take 70 = .ok (.ireturn, 1) := by decide +kernel
set_option maxRecDepth 20000 in
theorem ggX3_back_X3_refused : GoodIn wsX3_back wsX3_refused := goodIn_r _ [10, 2, 11, 12, 13, 14, 15, 16, 17, 18, 19, 20, 21, 22, 23, 24, 25, 26, 27, 28, 29] (by decide +kernel) (by decide +kernel)
set_option maxRecDepth 20000 in
theorem gX3_back_X3_refused : GoodIn wsX3_back (wsV RX3 146 RX3 yX3_refused wsX3_refused) := goodIn_app (goodIn_of _ (by decide +kernel)) ggX3_back_X3_refused
theorem dX3_back_0 : decode cX3_back 0 = .ok (.aload_n 0, 1) := by decide +kernel
theorem dX3_back_1 : decode cX3_back 1 = .ok (.getfield 143, 3) := by decide +kernel
theorem dX3_back_4 : decode cX3_back 4 = .ok (.ifCond .ne 10, 3) := by decide +kernel
theorem dX3_back_7 : decode cX3_back 7 = .ok (.aload_n 0, 1) := by decide +kernel
theorem dX3_back_8 : decode cX3_back 8 = .ok (.bipush 7, 2) := by decide +kernel
theorem dX3_back_10 : decode cX3_back 10 = .ok (.invokevirtual 146, 3) := by decide +kernel
theorem dX3_back_13 : decode cX3_back 13 = .ok (.ireturn, 1) := by decide +kernel
theorem dX3_back_14 : decode cX3_back 14 = .ok (.aload_n 0, 1) := by decide +kernel
theorem dX3_back_15 : decode cX3_back 15 = .ok (.iconst 0, 1) := by decide +kernel
theorem dX3_back_16 : decode cX3_back 16 = .ok (.putfield 55, 3) := by decide +kernel
theorem dX3_back_19 : decode cX3_back 19 = .ok (.aload_n 0, 1) := by decide +kernel
theorem dX3_back_20 : decode cX3_back 20 = .ok (.dup, 1) := by decide +kernel
theorem dX3_back_21 : decode cX3_back 21 = .ok (.getfield 143, 3) := by decide +kernel
theorem dX3_back_24 : decode cX3_back 24 = .ok (.iconst 1, 1) := by decide +kernel
theorem dX3_back_25 : decode cX3_back 25 = .ok (.isub, 1) := by decide +kernel
theorem dX3_back_26 : decode cX3_back 26 = .ok (.putfield 143, 3) := by decide +kernel
theorem dX3_back_29 : decode cX3_back 29 = .ok (.iconst 0, 1) := by decide +kernel
theorem dX3_back_30 : decode cX3_back 30 = .ok (.istore_n 1, 1) := by decide +kernel
theorem dX3_back_31 : decode cX3_back 31 = .ok (.iconst 0, 1) := by decide +kernel
theorem dX3_back_32 : decode cX3_back 32 = .ok (.istore_n 2, 1) := by decide +kernel
theorem dX3_back_33 : decode cX3_back 33 = .ok (.iload_n 2, 1) := by decide +kernel
theorem dX3_back_34 : decode cX3_back 34 = .ok (.aload_n 0, 1) := by decide +kernel
theorem dX3_back_35 : decode cX3_back 35 = .ok (.getfield 42, 3) := by decide +kernel
theorem dX3_back_38 : decode cX3_back 38 = .ok (.aload_n 0, 1) := by decide +kernel
theorem dX3_back_39 : decode cX3_back 39 = .ok (.getfield 143, 3) := by decide +kernel
theorem dX3_back_42 : decode cX3_back 42 = .ok (.iaload, 1) := by decide +kernel
theorem dX3_back_43 : decode cX3_back 43 = .ok (.if_icmp .ge 50, 3) := by decide +kernel
theorem dX3_back_46 : decode cX3_back 46 = .ok (.aload_n 0, 1) := by decide +kernel
theorem dX3_back_47 : decode cX3_back 47 = .ok (.getfield 36, 3) := by decide +kernel
theorem dX3_back_50 : decode cX3_back 50 = .ok (.bipush 16, 2) := by decide +kernel
theorem dX3_back_52 : decode cX3_back 52 = .ok (.aload_n 0, 1) := by decide +kernel
theorem dX3_back_53 : decode cX3_back 53 = .ok (.getfield 143, 3) := by decide +kernel
theorem dX3_back_56 : decode cX3_back 56 = .ok (.imul, 1) := by decide +kernel
theorem dX3_back_57 : decode cX3_back 57 = .ok (.iload_n 2, 1) := by decide +kernel
theorem dX3_back_58 : decode cX3_back 58 = .ok (.iadd, 1) := by decide +kernel
theorem dX3_back_59 : decode cX3_back 59 = .ok (.laload, 1) := by decide +kernel
theorem dX3_back_60 : decode cX3_back 60 = .ok (.lstore_n 3, 1) := by decide +kernel
theorem dX3_back_61 : decode cX3_back 61 = .ok (.iload_n 1, 1) := by decide +kernel
theorem dX3_back_62 : decode cX3_back 62 = .ok (.lload_n 3, 1) := by decide +kernel
theorem dX3_back_63 : decode cX3_back 63 = .ok (.aload_n 0, 1) := by decide +kernel
theorem dX3_back_64 : decode cX3_back 64 = .ok (.getfield 13, 3) := by decide +kernel
theorem dX3_back_67 : decode cX3_back 67 = .ok (.iload_n 2, 1) := by decide +kernel
theorem dX3_back_68 : decode cX3_back 68 = .ok (.laload, 1) := by decide +kernel
theorem dX3_back_69 : decode cX3_back 69 = .ok (.lcmp, 1) := by decide +kernel
theorem dX3_back_70 : decode cX3_back 70 = .ok (.ifCond .eq 7, 3) := by decide +kernel
theorem dX3_back_73 : decode cX3_back 73 = .ok (.iconst 1, 1) := by decide +kernel
theorem dX3_back_74 : decode cX3_back 74 = .ok (.goto 4, 3) := by decide +kernel
theorem dX3_back_77 : decode cX3_back 77 = .ok (.iconst 0, 1) := by decide +kernel
theorem dX3_back_78 : decode cX3_back 78 = .ok (.iadd, 1) := by decide +kernel
theorem dX3_back_79 : decode cX3_back 79 = .ok (.istore_n 1, 1) := by decide +kernel
theorem dX3_back_80 : decode cX3_back 80 = .ok (.aload_n 0, 1) := by decide +kernel
theorem dX3_back_81 : decode cX3_back 81 = .ok (.getfield 13, 3) := by decide +kernel
theorem dX3_back_84 : decode cX3_back 84 = .ok (.iload_n 2, 1) := by decide +kernel
theorem dX3_back_85 : decode cX3_back 85 = .ok (.lload_n 3, 1) := by decide +kernel
theorem dX3_back_86 : decode cX3_back 86 = .ok (.lastore, 1) := by decide +kernel
theorem dX3_back_87 : decode cX3_back 87 = .ok (.iinc 2 1, 3) := by decide +kernel
theorem dX3_back_90 : decode cX3_back 90 = .ok (.goto (-57), 3) := by decide +kernel
theorem dX3_back_93 : decode cX3_back 93 = .ok (.iload_n 1, 1) := by decide +kernel
theorem dX3_back_94 : decode cX3_back 94 = .ok (.ireturn, 1) := by decide +kernel
set_option maxRecDepth 20000 in
theorem ggX3_order_X3_isDial : GoodIn wsX3_order wsX3_isDial := goodIn_r _ [8, 9, 24, 25, 26, 27, 28, 29, 30, 31, 32, 33, 34, 35, 36, 37, 38, 39, 40, 41, 42] (by decide +kernel) (by decide +kernel)
set_option maxRecDepth 20000 in
theorem gX3_order_X3_isDial : GoodIn wsX3_order (wsV RX3 153 RX3 yX3_isDial wsX3_isDial) := goodIn_app (goodIn_of _ (by decide +kernel)) ggX3_order_X3_isDial
set_option maxRecDepth 20000 in
theorem ggX3_order_X3_isAbove : GoodIn wsX3_order wsX3_isAbove := goodIn_r _ [13, 14, 15, 16, 7, 17, 18, 19, 20, 21, 22, 23] (by decide +kernel) (by decide +kernel)
set_option maxRecDepth 20000 in
theorem gX3_order_X3_isAbove : GoodIn wsX3_order (wsV RX3 80 RX3 yX3_isAbove wsX3_isAbove) := goodIn_app (goodIn_of _ (by decide +kernel)) ggX3_order_X3_isAbove
theorem dX3_order_0 : decode cX3_order 0 = .ok (.aload_n 0, 1) := by decide +kernel
theorem dX3_order_1 : decode cX3_order 1 = .ok (.aload_n 0, 1) := by decide +kernel
theorem dX3_order_2 : decode cX3_order 2 = .ok (.iload_n 1, 1) := by decide +kernel
theorem dX3_order_3 : decode cX3_order 3 = .ok (.invokevirtual 153, 3) := by decide +kernel
theorem dX3_order_6 : decode cX3_order 6 = .ok (.ifCond .eq 11, 3) := by decide +kernel
theorem dX3_order_9 : decode cX3_order 9 = .ok (.aload_n 0, 1) := by decide +kernel
theorem dX3_order_10 : decode cX3_order 10 = .ok (.iload_n 2, 1) := by decide +kernel
theorem dX3_order_11 : decode cX3_order 11 = .ok (.invokevirtual 153, 3) := by decide +kernel
theorem dX3_order_14 : decode cX3_order 14 = .ok (.ifCond .ne 7, 3) := by decide +kernel
theorem dX3_order_17 : decode cX3_order 17 = .ok (.iconst 1, 1) := by decide +kernel
theorem dX3_order_18 : decode cX3_order 18 = .ok (.goto 24, 3) := by decide +kernel
theorem dX3_order_21 : decode cX3_order 21 = .ok (.aload_n 0, 1) := by decide +kernel
theorem dX3_order_22 : decode cX3_order 22 = .ok (.getfield 7, 3) := by decide +kernel
theorem dX3_order_25 : decode cX3_order 25 = .ok (.iload_n 1, 1) := by decide +kernel
theorem dX3_order_26 : decode cX3_order 26 = .ok (.iaload, 1) := by decide +kernel
theorem dX3_order_27 : decode cX3_order 27 = .ok (.aload_n 0, 1) := by decide +kernel
theorem dX3_order_28 : decode cX3_order 28 = .ok (.getfield 7, 3) := by decide +kernel
theorem dX3_order_31 : decode cX3_order 31 = .ok (.iload_n 2, 1) := by decide +kernel
theorem dX3_order_32 : decode cX3_order 32 = .ok (.iaload, 1) := by decide +kernel
theorem dX3_order_33 : decode cX3_order 33 = .ok (.if_icmp .eq 8, 3) := by decide +kernel
theorem dX3_order_36 : decode cX3_order 36 = .ok (.bipush 6, 2) := by decide +kernel
theorem dX3_order_38 : decode cX3_order 38 = .ok (.goto 4, 3) := by decide +kernel
theorem dX3_order_41 : decode cX3_order 41 = .ok (.iconst 0, 1) := by decide +kernel
theorem dX3_order_42 : decode cX3_order 42 = .ok (.putfield 55, 3) := by decide +kernel
theorem dX3_order_45 : decode cX3_order 45 = .ok (.aload_n 0, 1) := by decide +kernel
theorem dX3_order_46 : decode cX3_order 46 = .ok (.getfield 55, 3) := by decide +kernel
theorem dX3_order_49 : decode cX3_order 49 = .ok (.ifCond .le 6, 3) := by decide +kernel
theorem dX3_order_52 : decode cX3_order 52 = .ok (.bipush (-2), 2) := by decide +kernel
theorem dX3_order_54 : decode cX3_order 54 = .ok (.ireturn, 1) := by decide +kernel
theorem dX3_order_55 : decode cX3_order 55 = .ok (.aload_n 0, 1) := by decide +kernel
theorem dX3_order_56 : decode cX3_order 56 = .ok (.aload_n 0, 1) := by decide +kernel
theorem dX3_order_57 : decode cX3_order 57 = .ok (.getfield 7, 3) := by decide +kernel
theorem dX3_order_60 : decode cX3_order 60 = .ok (.iload_n 1, 1) := by decide +kernel
theorem dX3_order_61 : decode cX3_order 61 = .ok (.iaload, 1) := by decide +kernel
theorem dX3_order_62 : decode cX3_order 62 = .ok (.aload_n 0, 1) := by decide +kernel
theorem dX3_order_63 : decode cX3_order 63 = .ok (.getfield 13, 3) := by decide +kernel
theorem dX3_order_66 : decode cX3_order 66 = .ok (.iload_n 1, 1) := by decide +kernel
theorem dX3_order_67 : decode cX3_order 67 = .ok (.laload, 1) := by decide +kernel
theorem dX3_order_68 : decode cX3_order 68 = .ok (.aload_n 0, 1) := by decide +kernel
theorem dX3_order_69 : decode cX3_order 69 = .ok (.getfield 13, 3) := by decide +kernel
theorem dX3_order_72 : decode cX3_order 72 = .ok (.iload_n 2, 1) := by decide +kernel
theorem dX3_order_73 : decode cX3_order 73 = .ok (.laload, 1) := by decide +kernel
theorem dX3_order_74 : decode cX3_order 74 = .ok (.invokevirtual 80, 3) := by decide +kernel
theorem dX3_order_77 : decode cX3_order 77 = .ok (.ifCond .eq 5, 3) := by decide +kernel
theorem dX3_order_80 : decode cX3_order 80 = .ok (.iconst 1, 1) := by decide +kernel
theorem dX3_order_81 : decode cX3_order 81 = .ok (.ireturn, 1) := by decide +kernel
theorem dX3_order_82 : decode cX3_order 82 = .ok (.aload_n 0, 1) := by decide +kernel
theorem dX3_order_83 : decode cX3_order 83 = .ok (.aload_n 0, 1) := by decide +kernel
theorem dX3_order_84 : decode cX3_order 84 = .ok (.getfield 7, 3) := by decide +kernel
theorem dX3_order_87 : decode cX3_order 87 = .ok (.iload_n 1, 1) := by decide +kernel
theorem dX3_order_88 : decode cX3_order 88 = .ok (.iaload, 1) := by decide +kernel
theorem dX3_order_89 : decode cX3_order 89 = .ok (.aload_n 0, 1) := by decide +kernel
theorem dX3_order_90 : decode cX3_order 90 = .ok (.getfield 13, 3) := by decide +kernel
theorem dX3_order_93 : decode cX3_order 93 = .ok (.iload_n 2, 1) := by decide +kernel
theorem dX3_order_94 : decode cX3_order 94 = .ok (.laload, 1) := by decide +kernel
theorem dX3_order_95 : decode cX3_order 95 = .ok (.aload_n 0, 1) := by decide +kernel
theorem dX3_order_96 : decode cX3_order 96 = .ok (.getfield 13, 3) := by decide +kernel
theorem dX3_order_99 : decode cX3_order 99 = .ok (.iload_n 1, 1) := by decide +kernel
theorem dX3_order_100 : decode cX3_order 100 = .ok (.laload, 1) := by decide +kernel
theorem dX3_order_101 : decode cX3_order 101 = .ok (.invokevirtual 80, 3) := by decide +kernel
theorem dX3_order_104 : decode cX3_order 104 = .ok (.ifCond .eq 7, 3) := by decide +kernel
theorem dX3_order_107 : decode cX3_order 107 = .ok (.iconst (-1), 1) := by decide +kernel
theorem dX3_order_108 : decode cX3_order 108 = .ok (.goto 4, 3) := by decide +kernel
theorem dX3_order_111 : decode cX3_order 111 = .ok (.iconst 0, 1) := by decide +kernel
theorem dX3_order_112 : decode cX3_order 112 = .ok (.ireturn, 1) := by decide +kernel
set_option maxRecDepth 20000 in
theorem ggX3_look_X3_isDial : GoodIn wsX3_look wsX3_isDial := goodIn_r _ [9, 10, 11, 12, 13, 14, 15, 16, 17, 18, 19, 20, 21, 22, 23, 24, 25, 26, 27, 28, 29] (by decide +kernel) (by decide +kernel)
set_option maxRecDepth 20000 in
theorem gX3_look_X3_isDial : GoodIn wsX3_look (wsV RX3 153 RX3 yX3_isDial wsX3_isDial) := goodIn_app (goodIn_of _ (by decide +kernel)) ggX3_look_X3_isDial
theorem dX3_look_0 : decode cX3_look 0 = .ok (.aload_n 0, 1) := by decide +kernel
theorem dX3_look_1 : decode cX3_look 1 = .ok (.iload_n 1, 1) := by decide +kernel
theorem dX3_look_2 : decode cX3_look 2 = .ok (.invokevirtual 153, 3) := by decide +kernel
theorem dX3_look_5 : decode cX3_look 5 = .ok (.ifCond .ne 5, 3) := by decide +kernel
theorem dX3_look_8 : decode cX3_look 8 = .ok (.lconst 0, 1) := by decide +kernel
theorem dX3_look_9 : decode cX3_look 9 = .ok (.lreturn, 1) := by decide +kernel
theorem dX3_look_10 : decode cX3_look 10 = .ok (.iload_n 2, 1) := by decide +kernel
theorem dX3_look_11 : decode cX3_look 11 = .ok (.ifCond .ne 12, 3) := by decide +kernel
theorem dX3_look_14 : decode cX3_look 14 = .ok (.aload_n 0, 1) := by decide +kernel
theorem dX3_look_15 : decode cX3_look 15 = .ok (.getfield 13, 3) := by decide +kernel
theorem dX3_look_18 : decode cX3_look 18 = .ok (.iload_n 1, 1) := by decide +kernel
theorem dX3_look_19 : decode cX3_look 19 = .ok (.laload, 1) := by decide +kernel
theorem dX3_look_20 : decode cX3_look 20 = .ok (.goto 47, 3) := by decide +kernel
theorem dX3_look_23 : decode cX3_look 23 = .ok (.iload_n 2, 1) := by decide +kernel
theorem dX3_look_24 : decode cX3_look 24 = .ok (.iconst 1, 1) := by decide +kernel
theorem dX3_look_25 : decode cX3_look 25 = .ok (.if_icmp .ne 12, 3) := by decide +kernel
theorem dX3_look_28 : decode cX3_look 28 = .ok (.aload_n 0, 1) := by decide +kernel
theorem dX3_look_29 : decode cX3_look 29 = .ok (.getfield 17, 3) := by decide +kernel
theorem dX3_look_32 : decode cX3_look 32 = .ok (.iload_n 1, 1) := by decide +kernel
theorem dX3_look_33 : decode cX3_look 33 = .ok (.laload, 1) := by decide +kernel
theorem dX3_look_34 : decode cX3_look 34 = .ok (.goto 33, 3) := by decide +kernel
theorem dX3_look_37 : decode cX3_look 37 = .ok (.iload_n 2, 1) := by decide +kernel
theorem dX3_look_38 : decode cX3_look 38 = .ok (.iconst 2, 1) := by decide +kernel
theorem dX3_look_39 : decode cX3_look 39 = .ok (.if_icmp .ne 12, 3) := by decide +kernel
theorem dX3_look_42 : decode cX3_look 42 = .ok (.aload_n 0, 1) := by decide +kernel
theorem dX3_look_43 : decode cX3_look 43 = .ok (.getfield 20, 3) := by decide +kernel
theorem dX3_look_46 : decode cX3_look 46 = .ok (.iload_n 1, 1) := by decide +kernel
theorem dX3_look_47 : decode cX3_look 47 = .ok (.laload, 1) := by decide +kernel
theorem dX3_look_48 : decode cX3_look 48 = .ok (.goto 19, 3) := by decide +kernel
theorem dX3_look_51 : decode cX3_look 51 = .ok (.iload_n 2, 1) := by decide +kernel
theorem dX3_look_52 : decode cX3_look 52 = .ok (.iconst 3, 1) := by decide +kernel
theorem dX3_look_53 : decode cX3_look 53 = .ok (.if_icmp .ne 13, 3) := by decide +kernel
theorem dX3_look_56 : decode cX3_look 56 = .ok (.aload_n 0, 1) := by decide +kernel
theorem dX3_look_57 : decode cX3_look 57 = .ok (.getfield 7, 3) := by decide +kernel
theorem dX3_look_60 : decode cX3_look 60 = .ok (.iload_n 1, 1) := by decide +kernel
theorem dX3_look_61 : decode cX3_look 61 = .ok (.iaload, 1) := by decide +kernel
theorem dX3_look_62 : decode cX3_look 62 = .ok (.i2l, 1) := by decide +kernel
theorem dX3_look_63 : decode cX3_look 63 = .ok (.goto 4, 3) := by decide +kernel
theorem dX3_look_66 : decode cX3_look 66 = .ok (.lconst 0, 1) := by decide +kernel
theorem dX3_look_67 : decode cX3_look 67 = .ok (.lreturn, 1) := by decide +kernel
theorem dX3_count_0 : decode cX3_count 0 = .ok (.iload_n 1, 1) := by decide +kernel
theorem dX3_count_1 : decode cX3_count 1 = .ok (.ifCond .ne 10, 3) := by decide +kernel
theorem dX3_count_4 : decode cX3_count 4 = .ok (.aload_n 0, 1) := by decide +kernel
theorem dX3_count_5 : decode cX3_count 5 = .ok (.getfield 51, 3) := by decide +kernel
theorem dX3_count_8 : decode cX3_count 8 = .ok (.goto 52, 3) := by decide +kernel
theorem dX3_count_11 : decode cX3_count 11 = .ok (.iload_n 1, 1) := by decide +kernel
theorem dX3_count_12 : decode cX3_count 12 = .ok (.iconst 1, 1) := by decide +kernel
theorem dX3_count_13 : decode cX3_count 13 = .ok (.if_icmp .ne 10, 3) := by decide +kernel
theorem dX3_count_16 : decode cX3_count 16 = .ok (.aload_n 0, 1) := by decide +kernel
theorem dX3_count_17 : decode cX3_count 17 = .ok (.getfield 126, 3) := by decide +kernel
theorem dX3_count_20 : decode cX3_count 20 = .ok (.goto 40, 3) := by decide +kernel
theorem dX3_count_23 : decode cX3_count 23 = .ok (.iload_n 1, 1) := by decide +kernel
theorem dX3_count_24 : decode cX3_count 24 = .ok (.iconst 2, 1) := by decide +kernel
theorem dX3_count_25 : decode cX3_count 25 = .ok (.if_icmp .ne 10, 3) := by decide +kernel
theorem dX3_count_28 : decode cX3_count 28 = .ok (.aload_n 0, 1) := by decide +kernel
theorem dX3_count_29 : decode cX3_count 29 = .ok (.getfield 143, 3) := by decide +kernel
theorem dX3_count_32 : decode cX3_count 32 = .ok (.goto 28, 3) := by decide +kernel
theorem dX3_count_35 : decode cX3_count 35 = .ok (.iload_n 1, 1) := by decide +kernel
theorem dX3_count_36 : decode cX3_count 36 = .ok (.iconst 3, 1) := by decide +kernel
theorem dX3_count_37 : decode cX3_count 37 = .ok (.if_icmp .ne 10, 3) := by decide +kernel
theorem dX3_count_40 : decode cX3_count 40 = .ok (.aload_n 0, 1) := by decide +kernel
theorem dX3_count_41 : decode cX3_count 41 = .ok (.getfield 137, 3) := by decide +kernel
theorem dX3_count_44 : decode cX3_count 44 = .ok (.goto 16, 3) := by decide +kernel
theorem dX3_count_47 : decode cX3_count 47 = .ok (.iload_n 1, 1) := by decide +kernel
theorem dX3_count_48 : decode cX3_count 48 = .ok (.iconst 4, 1) := by decide +kernel
theorem dX3_count_49 : decode cX3_count 49 = .ok (.if_icmp .ne 10, 3) := by decide +kernel
theorem dX3_count_52 : decode cX3_count 52 = .ok (.aload_n 0, 1) := by decide +kernel
theorem dX3_count_53 : decode cX3_count 53 = .ok (.getfield 55, 3) := by decide +kernel
theorem dX3_count_56 : decode cX3_count 56 = .ok (.goto 4, 3) := by decide +kernel
theorem dX3_count_59 : decode cX3_count 59 = .ok (.iconst (-1), 1) := by decide +kernel
theorem dX3_count_60 : decode cX3_count 60 = .ok (.ireturn, 1) := by decide +kernel
theorem dJ9_abs_0f7a4_0 : decode cJ9_abs_0f7a4 0 = .ok (.iload_n 0, 1) := by decide +kernel
theorem dJ9_abs_0f7a4_1 : decode cJ9_abs_0f7a4 1 = .ok (.ifCond .ge 8, 3) := by decide +kernel
theorem dJ9_abs_0f7a4_4 : decode cJ9_abs_0f7a4 4 = .ok (.iload_n 0, 1) := by decide +kernel
theorem dJ9_abs_0f7a4_5 : decode cJ9_abs_0f7a4 5 = .ok (.ineg, 1) := by decide +kernel
theorem dJ9_abs_0f7a4_6 : decode cJ9_abs_0f7a4 6 = .ok (.goto 4, 3) := by decide +kernel
theorem dJ9_abs_0f7a4_9 : decode cJ9_abs_0f7a4 9 = .ok (.iload_n 0, 1) := by decide +kernel
theorem dJ9_abs_0f7a4_10 : decode cJ9_abs_0f7a4 10 = .ok (.ireturn, 1) := by decide +kernel
theorem dJ9_abs_067f4_0 : decode cJ9_abs_067f4 0 = .ok (.lload_n 0, 1) := by decide +kernel
theorem dJ9_abs_067f4_1 : decode cJ9_abs_067f4 1 = .ok (.lconst 0, 1) := by decide +kernel
theorem dJ9_abs_067f4_2 : decode cJ9_abs_067f4 2 = .ok (.lcmp, 1) := by decide +kernel
theorem dJ9_abs_067f4_3 : decode cJ9_abs_067f4 3 = .ok (.ifCond .ge 8, 3) := by decide +kernel
theorem dJ9_abs_067f4_6 : decode cJ9_abs_067f4 6 = .ok (.lload_n 0, 1) := by decide +kernel
theorem dJ9_abs_067f4_7 : decode cJ9_abs_067f4 7 = .ok (.lneg, 1) := by decide +kernel
theorem dJ9_abs_067f4_8 : decode cJ9_abs_067f4 8 = .ok (.goto 4, 3) := by decide +kernel
theorem dJ9_abs_067f4_11 : decode cJ9_abs_067f4 11 = .ok (.lload_n 0, 1) := by decide +kernel
theorem dJ9_abs_067f4_12 : decode cJ9_abs_067f4 12 = .ok (.lreturn, 1) := by decide +kernel
set_option maxRecDepth 20000 in
theorem ggL_law_X2_init : GoodIn wsL_law wsX2_init := goodIn_r _ [9, 10, 11, 12, 13, 14, 15, 16, 17, 18, 19, 20, 21, 22, 23, 24, 25, 26, 27, 28, 29, 30, 31, 32, 33, 367, 368, 369, 370, 371, 372, 373, 374, 375, 376, 377, 378, 379, 380, 400, 401, 402, 403] (by decide +kernel) (by decide +kernel)
set_option maxRecDepth 20000 in
theorem gL_law_X2_init : GoodIn wsL_law (wsX2_init) := ggL_law_X2_init
set_option maxRecDepth 20000 in
theorem ggL_law_X3_init : GoodIn wsL_law wsX3_init := goodIn_r _ [36, 37, 11, 12, 13, 38, 15, 39, 40, 41, 42, 43, 44, 22, 45, 46, 47, 48, 49, 50, 381, 382, 383, 384, 385, 386, 387, 388, 389, 390, 391, 392, 393, 394, 395, 396, 397, 398, 399] (by decide +kernel) (by decide +kernel)
set_option maxRecDepth 20000 in
theorem gL_law_X3_init : GoodIn wsL_law (wsX3_init) := ggL_law_X3_init
set_option maxRecDepth 20000 in
theorem ggL_law_X2_dial : GoodIn wsL_law wsX2_dial := goodIn_r _ [54, 55, 56, 14, 16, 17, 18, 57, 58, 59, 2, 60, 61, 62, 63, 64, 65, 66, 67, 68, 69, 70, 71, 72, 73, 74, 75, 76, 77, 78, 79, 80, 81, 82, 83, 84, 85, 86, 87, 88, 89, 90, 91, 367, 368, 369, 370, 371, 372, 373, 374, 375, 376, 377, 378, 379, 380] (by decide +kernel) (by decide +kernel)
set_option maxRecDepth 20000 in
theorem gL_law_X2_dial : GoodIn wsL_law (wsV RL 15 RX2 yX2_dial wsX2_dial) := goodIn_app (goodIn_of _ (by decide +kernel)) ggL_law_X2_dial
set_option maxRecDepth 20000 in
theorem ggL_law_X3_dial : GoodIn wsL_law wsX3_dial := goodIn_r _ [95, 96, 97, 38, 40, 41, 39, 98, 99, 100, 5, 101, 102, 103, 104, 105, 106, 107, 108, 109, 110, 111, 112, 113, 114, 115, 116, 117, 118, 119, 120, 121, 122, 123, 124, 125, 126, 127, 128, 129, 130, 131, 132, 133, 134, 135, 136, 137, 138, 381, 382, 383, 384, 385, 386, 387, 388, 389, 390, 391, 392, 393, 394, 395, 396, 397, 398, 399] (by decide +kernel) (by decide +kernel)
set_option maxRecDepth 20000 in
theorem gL_law_X3_dial : GoodIn wsL_law (wsV RL 19 RX3 yX3_dial wsX3_dial) := goodIn_app (goodIn_of _ (by decide +kernel)) ggL_law_X3_dial
set_option maxRecDepth 20000 in
theorem ggL_law_X2_rod : GoodIn wsL_law wsX2_rod := goodIn_r _ [142, 55, 143, 19, 20, 21, 144, 145, 146, 2, 147, 148, 149, 150, 151, 152, 153, 154, 56, 155, 156, 157, 158, 14, 159, 77, 63, 78, 367, 368, 369, 370, 371, 372, 373, 374, 375, 376, 377, 378, 379, 380] (by decide +kernel) (by decide +kernel)
set_option maxRecDepth 20000 in
theorem gL_law_X2_rod : GoodIn wsL_law (wsV RL 20 RX2 yX2_rod wsX2_rod) := goodIn_app (goodIn_of _ (by decide +kernel)) ggL_law_X2_rod
set_option maxRecDepth 20000 in
theorem ggL_law_X3_rod : GoodIn wsL_law wsX3_rod := goodIn_r _ [163, 164, 97, 42, 43, 44, 98, 99, 100, 5, 101, 165, 166, 167, 168, 96, 169, 170, 171, 172, 38, 123, 124, 125, 126, 381, 382, 383, 384, 385, 386, 387, 388, 389, 390, 391, 392, 393, 394, 395, 396, 397, 398, 399] (by decide +kernel) (by decide +kernel)
set_option maxRecDepth 20000 in
theorem gL_law_X3_rod : GoodIn wsL_law (wsV RL 24 RX3 yX3_rod wsX3_rod) := goodIn_app (goodIn_of _ (by decide +kernel)) ggL_law_X3_rod
set_option maxRecDepth 20000 in
theorem ggL_law_X2_set : GoodIn wsL_law wsX2_set := goodIn_r _ [176, 55, 177, 178, 179, 2, 180, 14, 151, 152, 153, 154, 56, 61, 62, 63, 64, 65, 66, 67, 68, 69, 181, 182, 183, 184, 143, 23, 185, 186, 187, 188, 189, 16, 17, 18, 20, 21, 19, 82, 83, 84, 85, 86, 87, 88, 71, 72, 73, 74, 75, 76, 77, 78, 79, 80, 81, 89, 90, 91, 190, 191, 192, 193, 27, 194, 195, 196, 197, 26, 198, 199, 200, 33, 32, 201, 202, 203, 204, 205, 206, 207, 208, 209, 210, 211, 212, 213, 214, 215, 216, 217, 218, 219, 220, 221, 222, 223, 224, 367, 368, 369, 370, 371, 372, 373, 374, 375, 376, 377, 378, 379, 380, 400, 401, 402, 403] (by decide +kernel) (by decide +kernel)
set_option maxRecDepth 20000 in
theorem gL_law_X2_set : GoodIn wsL_law (wsV RL 25 RX2 yX2_set wsX2_set) := goodIn_app (goodIn_of _ (by decide +kernel)) ggL_law_X2_set
set_option maxRecDepth 20000 in
theorem ggL_law_X3_set : GoodIn wsL_law wsX3_set := goodIn_r _ [228, 38, 165, 166, 167, 5, 168, 96, 98, 99, 100, 101, 97, 102, 103, 104, 105, 106, 107, 108, 109, 110, 111, 112, 113, 114, 229, 230, 231, 232, 233, 47, 39, 45, 234, 235, 236, 237, 238, 49, 50, 164, 43, 44, 42, 239, 240, 241, 242, 127, 128, 129, 130, 40, 41, 131, 132, 133, 134, 115, 116, 117, 118, 119, 120, 121, 122, 123, 124, 125, 126, 135, 136, 137, 138, 243, 244, 245, 246, 247, 248, 249, 250, 251, 252, 253, 254, 255, 256, 257, 258, 259, 260, 261, 262, 263, 264, 265, 46, 48, 381, 382, 383, 384, 385, 386, 387, 388, 389, 390, 391, 392, 393, 394, 395, 396, 397, 398, 399] (by decide +kernel) (by decide +kernel)
set_option maxRecDepth 20000 in
theorem gL_law_X3_set : GoodIn wsL_law (wsV RL 29 RX3 yX3_set wsX3_set) := goodIn_app (goodIn_of _ (by decide +kernel)) ggL_law_X3_set
set_option maxRecDepth 20000 in
theorem ggL_law_X2_turn : GoodIn wsL_law wsX2_turn := goodIn_r _ [269, 55, 14, 18, 270, 271, 272, 2, 273, 151, 152, 153, 154, 56, 159, 77, 63, 78, 274, 275, 276, 277, 216, 217, 218, 219, 220, 221, 222, 223, 224, 79, 80, 81, 66, 68, 278, 279, 280, 281, 282, 283, 284, 285, 286, 212, 213, 214, 287, 288, 289, 290, 291, 292, 181, 182, 183, 184, 143, 23, 185, 186, 187, 188, 189, 16, 17, 20, 21, 19, 82, 83, 84, 85, 86, 87, 88, 71, 72, 73, 74, 75, 76, 89, 90, 91, 190, 191, 192, 193, 27, 194, 195, 196, 197, 26, 198, 199, 200, 33, 32, 201, 202, 203, 204, 205, 206, 207, 208, 209, 210, 211, 215, 367, 368, 369, 370, 371, 372, 373, 374, 375, 376, 377, 378, 379, 380, 400, 401, 402, 403] (by decide +kernel) (by decide +kernel)
set_option maxRecDepth 20000 in
theorem gL_law_X2_turn : GoodIn wsL_law (wsV RL 30 RX2 yX2_turn wsX2_turn) := goodIn_app (goodIn_of _ (by decide +kernel)) ggL_law_X2_turn
set_option maxRecDepth 20000 in
theorem ggL_law_X3_turn : GoodIn wsL_law wsX3_turn := goodIn_r _ [296, 38, 39, 165, 166, 167, 5, 168, 96, 98, 99, 100, 101, 97, 123, 124, 125, 126, 297, 298, 299, 300, 257, 258, 259, 260, 114, 256, 247, 248, 249, 250, 108, 106, 301, 302, 303, 304, 305, 306, 307, 308, 309, 310, 251, 252, 253, 254, 255, 229, 230, 231, 232, 233, 47, 45, 234, 235, 236, 237, 238, 49, 50, 164, 43, 44, 42, 239, 240, 241, 242, 127, 128, 129, 130, 40, 41, 131, 132, 133, 134, 115, 116, 117, 118, 119, 120, 121, 122, 135, 136, 137, 138, 243, 244, 245, 246, 261, 262, 263, 264, 265, 46, 48, 381, 382, 383, 384, 385, 386, 387, 388, 389, 390, 391, 392, 393, 394, 395, 396, 397, 398, 399] (by decide +kernel) (by decide +kernel)
set_option maxRecDepth 20000 in
theorem gL_law_X3_turn : GoodIn wsL_law (wsV RL 34 RX3 yX3_turn wsX3_turn) := goodIn_app (goodIn_of _ (by decide +kernel)) ggL_law_X3_turn
set_option maxRecDepth 20000 in
theorem ggL_law_X2_take : GoodIn wsL_law wsX2_take := goodIn_r _ [314, 55, 315, 316, 317, 2, 318, 151, 152, 153, 154, 56, 148, 149, 150, 155, 156, 157, 158, 14, 159, 77, 63, 78, 205, 206, 207, 208, 18, 209, 90, 91, 88, 71, 72, 73, 74, 75, 76, 79, 80, 81, 66, 68, 210, 86, 87, 211, 212, 213, 214, 215, 216, 217, 218, 219, 220, 221, 222, 223, 224, 181, 182, 183, 184, 143, 23, 185, 186, 187, 188, 189, 16, 17, 20, 21, 19, 82, 83, 84, 85, 89, 190, 191, 192, 193, 27, 194, 195, 196, 197, 26, 198, 199, 200, 33, 32, 201, 202, 203, 204, 367, 368, 369, 370, 371, 372, 373, 374, 375, 376, 377, 378, 379, 380, 400, 401, 402, 403] (by decide +kernel) (by decide +kernel)
set_option maxRecDepth 20000 in
theorem gL_law_X2_take : GoodIn wsL_law (wsV RL 35 RX2 yX2_take wsX2_take) := goodIn_app (goodIn_of _ (by decide +kernel)) ggL_law_X2_take
set_option maxRecDepth 20000 in
theorem ggL_law_X3_take : GoodIn wsL_law wsX3_take := goodIn_r _ [322, 165, 166, 167, 5, 168, 96, 98, 99, 100, 101, 97, 169, 170, 171, 172, 38, 123, 124, 125, 126, 243, 244, 245, 246, 39, 135, 136, 137, 138, 115, 116, 117, 118, 119, 120, 121, 122, 108, 106, 131, 132, 133, 134, 247, 248, 249, 250, 251, 252, 253, 254, 255, 256, 257, 258, 259, 260, 114, 229, 230, 231, 232, 233, 47, 45, 234, 235, 236, 237, 238, 49, 50, 164, 43, 44, 42, 239, 240, 241, 242, 127, 128, 129, 130, 40, 41, 261, 262, 263, 264, 265, 46, 48, 381, 382, 383, 384, 385, 386, 387, 388, 389, 390, 391, 392, 393, 394, 395, 396, 397, 398, 399] (by decide +kernel) (by decide +kernel)
set_option maxRecDepth 20000 in
theorem gL_law_X3_take : GoodIn wsL_law (wsV RL 38 RX3 yX3_take wsX3_take) := goodIn_app (goodIn_of _ (by decide +kernel)) ggL_law_X3_take
set_option maxRecDepth 20000 in
theorem ggL_law_X2_back : GoodIn wsL_law wsX2_back := goodIn_r _ [326, 27, 55, 18, 327, 328, 329, 26, 330, 199, 331, 332, 333, 334, 200, 33, 32, 367, 368, 369, 370, 371, 372, 373, 374, 375, 376, 377, 378, 379, 380, 400, 401, 402, 403] (by decide +kernel) (by decide +kernel)
set_option maxRecDepth 20000 in
theorem gL_law_X2_back : GoodIn wsL_law (wsV RL 39 RX2 yX2_back wsX2_back) := goodIn_app (goodIn_of _ (by decide +kernel)) ggL_law_X2_back
set_option maxRecDepth 20000 in
theorem ggL_law_X3_back : GoodIn wsL_law wsX3_back := goodIn_r _ [338, 265, 97, 48, 46, 39, 98, 99, 100, 5, 101, 381, 382, 383, 384, 385, 386, 387, 388, 389, 390, 391, 392, 393, 394, 395, 396, 397, 398, 399] (by decide +kernel) (by decide +kernel)
set_option maxRecDepth 20000 in
theorem gL_law_X3_back : GoodIn wsL_law (wsV RL 43 RX3 yX3_back wsX3_back) := goodIn_app (goodIn_of _ (by decide +kernel)) ggL_law_X3_back
set_option maxRecDepth 20000 in
theorem ggL_law_X2_order : GoodIn wsL_law wsX2_order := goodIn_r _ [342, 55, 14, 18, 343, 344, 345, 2, 346, 151, 152, 153, 154, 56, 70, 71, 63, 72, 73, 74, 75, 76, 77, 78, 79, 80, 81, 66, 68, 367, 368, 369, 370, 371, 372, 373, 374, 375, 376, 377, 378, 379, 380] (by decide +kernel) (by decide +kernel)
set_option maxRecDepth 20000 in
theorem gL_law_X2_order : GoodIn wsL_law (wsV RL 44 RX2 yX2_order wsX2_order) := goodIn_app (goodIn_of _ (by decide +kernel)) ggL_law_X2_order
set_option maxRecDepth 20000 in
theorem ggL_law_X3_order : GoodIn wsL_law wsX3_order := goodIn_r _ [350, 38, 97, 39, 165, 166, 167, 5, 168, 96, 115, 116, 117, 118, 119, 120, 121, 122, 108, 106, 123, 124, 125, 126, 381, 382, 383, 384, 385, 386, 387, 388, 389, 390, 391, 392, 393, 394, 395, 396, 397, 398, 399] (by decide +kernel) (by decide +kernel)
set_option maxRecDepth 20000 in
theorem gL_law_X3_order : GoodIn wsL_law (wsV RL 47 RX3 yX3_order wsX3_order) := goodIn_app (goodIn_of _ (by decide +kernel)) ggL_law_X3_order
set_option maxRecDepth 20000 in
theorem ggL_law_X2_look : GoodIn wsL_law wsX2_look := goodIn_r _ [354, 18, 16, 17, 14, 151, 152, 153, 2, 154, 56, 367, 368, 369, 370, 371, 372, 373, 374, 375, 376, 377, 378, 379, 380] (by decide +kernel) (by decide +kernel)
set_option maxRecDepth 20000 in
theorem gL_law_X2_look : GoodIn wsL_law (wsV RL 48 RX2 yX2_look wsX2_look) := goodIn_app (goodIn_of _ (by decide +kernel)) ggL_law_X2_look
set_option maxRecDepth 20000 in
theorem ggL_law_X3_look : GoodIn wsL_law wsX3_look := goodIn_r _ [358, 39, 40, 41, 38, 165, 166, 167, 5, 168, 96, 381, 382, 383, 384, 385, 386, 387, 388, 389, 390, 391, 392, 393, 394, 395, 396, 397, 398, 399] (by decide +kernel) (by decide +kernel)
set_option maxRecDepth 20000 in
theorem gL_law_X3_look : GoodIn wsL_law (wsV RL 52 RX3 yX3_look wsX3_look) := goodIn_app (goodIn_of _ (by decide +kernel)) ggL_law_X3_look
set_option maxRecDepth 20000 in
theorem ggL_law_X2_count : GoodIn wsL_law wsX2_count := goodIn_r _ [362, 56, 143, 27, 194, 55, 327, 328, 329, 26, 330, 199, 367, 368, 369, 370, 371, 372, 373, 374, 375, 376, 377, 378, 379, 380, 400, 401, 402, 403] (by decide +kernel) (by decide +kernel)
set_option maxRecDepth 20000 in
theorem gL_law_X2_count : GoodIn wsL_law (wsV RL 53 RX2 yX2_count wsX2_count) := goodIn_app (goodIn_of _ (by decide +kernel)) ggL_law_X2_count
set_option maxRecDepth 20000 in
theorem ggL_law_X3_count : GoodIn wsL_law wsX3_count := goodIn_r _ [366, 96, 164, 265, 234, 97, 381, 382, 383, 384, 385, 386, 387, 388, 389, 390, 391, 392, 393, 394, 395, 396, 397, 398, 399] (by decide +kernel) (by decide +kernel)
set_option maxRecDepth 20000 in
theorem gL_law_X3_count : GoodIn wsL_law (wsV RL 57 RX3 yX3_count wsX3_count) := goodIn_app (goodIn_of _ (by decide +kernel)) ggL_law_X3_count
theorem dL_law_0 : decode cL_law 0 = .ok (.new 7, 3) := by decide +kernel
theorem dL_law_3 : decode cL_law 3 = .ok (.dup, 1) := by decide +kernel
theorem dL_law_4 : decode cL_law 4 = .ok (.invokespecial 9, 3) := by decide +kernel
theorem dL_law_7 : decode cL_law 7 = .ok (.astore_n 1, 1) := by decide +kernel
theorem dL_law_8 : decode cL_law 8 = .ok (.new 10, 3) := by decide +kernel
theorem dL_law_11 : decode cL_law 11 = .ok (.dup, 1) := by decide +kernel
theorem dL_law_12 : decode cL_law 12 = .ok (.invokespecial 12, 3) := by decide +kernel
theorem dL_law_15 : decode cL_law 15 = .ok (.astore_n 2, 1) := by decide +kernel
theorem dL_law_16 : decode cL_law 16 = .ok (.iconst 0, 1) := by decide +kernel
theorem dL_law_17 : decode cL_law 17 = .ok (.istore_n 3, 1) := by decide +kernel
theorem dL_law_18 : decode cL_law 18 = .ok (.iload_n 3, 1) := by decide +kernel
theorem dL_law_19 : decode cL_law 19 = .ok (.aload_n 0, 1) := by decide +kernel
theorem dL_law_20 : decode cL_law 20 = .ok (.arraylength, 1) := by decide +kernel
theorem dL_law_21 : decode cL_law 21 = .ok (.bipush 6, 2) := by decide +kernel
theorem dL_law_23 : decode cL_law 23 = .ok (.isub, 1) := by decide +kernel
theorem dL_law_24 : decode cL_law 24 = .ok (.if_icmp .gt 454, 3) := by decide +kernel
theorem dL_law_27 : decode cL_law 27 = .ok (.aload_n 0, 1) := by decide +kernel
theorem dL_law_28 : decode cL_law 28 = .ok (.iload_n 3, 1) := by decide +kernel
theorem dL_law_29 : decode cL_law 29 = .ok (.iaload, 1) := by decide +kernel
theorem dL_law_30 : decode cL_law 30 = .ok (.bipush 15, 2) := by decide +kernel
theorem dL_law_32 : decode cL_law 32 = .ok (.iand, 1) := by decide +kernel
theorem dL_law_33 : decode cL_law 33 = .ok (.tableswitch 439 0 8 #[51, 154, 197, 260, 293, 336, 349, 382, 416], 51) := by decide +kernel
theorem dL_law_84 : decode cL_law 84 = .ok (.aload_n 1, 1) := by decide +kernel
theorem dL_law_85 : decode cL_law 85 = .ok (.aload_n 0, 1) := by decide +kernel
theorem dL_law_86 : decode cL_law 86 = .ok (.iload_n 3, 1) := by decide +kernel
theorem dL_law_87 : decode cL_law 87 = .ok (.iconst 1, 1) := by decide +kernel
theorem dL_law_88 : decode cL_law 88 = .ok (.iadd, 1) := by decide +kernel
theorem dL_law_89 : decode cL_law 89 = .ok (.iaload, 1) := by decide +kernel
theorem dL_law_90 : decode cL_law 90 = .ok (.aload_n 0, 1) := by decide +kernel
theorem dL_law_91 : decode cL_law 91 = .ok (.iload_n 3, 1) := by decide +kernel
theorem dL_law_92 : decode cL_law 92 = .ok (.iconst 2, 1) := by decide +kernel
theorem dL_law_93 : decode cL_law 93 = .ok (.iadd, 1) := by decide +kernel
theorem dL_law_94 : decode cL_law 94 = .ok (.iaload, 1) := by decide +kernel
theorem dL_law_95 : decode cL_law 95 = .ok (.i2l, 1) := by decide +kernel
theorem dL_law_96 : decode cL_law 96 = .ok (.bipush 32, 2) := by decide +kernel
theorem dL_law_98 : decode cL_law 98 = .ok (.lshl, 1) := by decide +kernel
theorem dL_law_99 : decode cL_law 99 = .ok (.aload_n 0, 1) := by decide +kernel
theorem dL_law_100 : decode cL_law 100 = .ok (.iload_n 3, 1) := by decide +kernel
theorem dL_law_101 : decode cL_law 101 = .ok (.iconst 3, 1) := by decide +kernel
theorem dL_law_102 : decode cL_law 102 = .ok (.iadd, 1) := by decide +kernel
theorem dL_law_103 : decode cL_law 103 = .ok (.iaload, 1) := by decide +kernel
theorem dL_law_104 : decode cL_law 104 = .ok (.i2l, 1) := by decide +kernel
theorem dL_law_105 : decode cL_law 105 = .ok (.ldc2_w 13, 3) := by decide +kernel
theorem dL_law_108 : decode cL_law 108 = .ok (.land, 1) := by decide +kernel
theorem dL_law_109 : decode cL_law 109 = .ok (.lor, 1) := by decide +kernel
theorem dL_law_110 : decode cL_law 110 = .ok (.aload_n 0, 1) := by decide +kernel
theorem dL_law_111 : decode cL_law 111 = .ok (.iload_n 3, 1) := by decide +kernel
theorem dL_law_112 : decode cL_law 112 = .ok (.iconst 4, 1) := by decide +kernel
theorem dL_law_113 : decode cL_law 113 = .ok (.iadd, 1) := by decide +kernel
theorem dL_law_114 : decode cL_law 114 = .ok (.iaload, 1) := by decide +kernel
theorem dL_law_115 : decode cL_law 115 = .ok (.i2l, 1) := by decide +kernel
theorem dL_law_116 : decode cL_law 116 = .ok (.bipush 32, 2) := by decide +kernel
theorem dL_law_118 : decode cL_law 118 = .ok (.lshl, 1) := by decide +kernel
theorem dL_law_119 : decode cL_law 119 = .ok (.aload_n 0, 1) := by decide +kernel
theorem dL_law_120 : decode cL_law 120 = .ok (.iload_n 3, 1) := by decide +kernel
theorem dL_law_121 : decode cL_law 121 = .ok (.iconst 5, 1) := by decide +kernel
theorem dL_law_122 : decode cL_law 122 = .ok (.iadd, 1) := by decide +kernel
theorem dL_law_123 : decode cL_law 123 = .ok (.iaload, 1) := by decide +kernel
theorem dL_law_124 : decode cL_law 124 = .ok (.i2l, 1) := by decide +kernel
theorem dL_law_125 : decode cL_law 125 = .ok (.ldc2_w 13, 3) := by decide +kernel
theorem dL_law_128 : decode cL_law 128 = .ok (.land, 1) := by decide +kernel
theorem dL_law_129 : decode cL_law 129 = .ok (.lor, 1) := by decide +kernel
theorem dL_law_130 : decode cL_law 130 = .ok (.invokevirtual 15, 3) := by decide +kernel
theorem dL_law_133 : decode cL_law 133 = .ok (.aload_n 2, 1) := by decide +kernel
theorem dL_law_134 : decode cL_law 134 = .ok (.aload_n 0, 1) := by decide +kernel
theorem dL_law_135 : decode cL_law 135 = .ok (.iload_n 3, 1) := by decide +kernel
theorem dL_law_136 : decode cL_law 136 = .ok (.iconst 1, 1) := by decide +kernel
theorem dL_law_137 : decode cL_law 137 = .ok (.iadd, 1) := by decide +kernel
theorem dL_law_138 : decode cL_law 138 = .ok (.iaload, 1) := by decide +kernel
theorem dL_law_139 : decode cL_law 139 = .ok (.aload_n 0, 1) := by decide +kernel
theorem dL_law_140 : decode cL_law 140 = .ok (.iload_n 3, 1) := by decide +kernel
theorem dL_law_141 : decode cL_law 141 = .ok (.iconst 2, 1) := by decide +kernel
theorem dL_law_142 : decode cL_law 142 = .ok (.iadd, 1) := by decide +kernel
theorem dL_law_143 : decode cL_law 143 = .ok (.iaload, 1) := by decide +kernel
theorem dL_law_144 : decode cL_law 144 = .ok (.i2l, 1) := by decide +kernel
theorem dL_law_145 : decode cL_law 145 = .ok (.bipush 32, 2) := by decide +kernel
theorem dL_law_147 : decode cL_law 147 = .ok (.lshl, 1) := by decide +kernel
theorem dL_law_148 : decode cL_law 148 = .ok (.aload_n 0, 1) := by decide +kernel
theorem dL_law_149 : decode cL_law 149 = .ok (.iload_n 3, 1) := by decide +kernel
theorem dL_law_150 : decode cL_law 150 = .ok (.iconst 3, 1) := by decide +kernel
theorem dL_law_151 : decode cL_law 151 = .ok (.iadd, 1) := by decide +kernel
theorem dL_law_152 : decode cL_law 152 = .ok (.iaload, 1) := by decide +kernel
theorem dL_law_153 : decode cL_law 153 = .ok (.i2l, 1) := by decide +kernel
theorem dL_law_154 : decode cL_law 154 = .ok (.ldc2_w 13, 3) := by decide +kernel
theorem dL_law_157 : decode cL_law 157 = .ok (.land, 1) := by decide +kernel
theorem dL_law_158 : decode cL_law 158 = .ok (.lor, 1) := by decide +kernel
theorem dL_law_159 : decode cL_law 159 = .ok (.aload_n 0, 1) := by decide +kernel
theorem dL_law_160 : decode cL_law 160 = .ok (.iload_n 3, 1) := by decide +kernel
theorem dL_law_161 : decode cL_law 161 = .ok (.iconst 4, 1) := by decide +kernel
theorem dL_law_162 : decode cL_law 162 = .ok (.iadd, 1) := by decide +kernel
theorem dL_law_163 : decode cL_law 163 = .ok (.iaload, 1) := by decide +kernel
theorem dL_law_164 : decode cL_law 164 = .ok (.i2l, 1) := by decide +kernel
theorem dL_law_165 : decode cL_law 165 = .ok (.bipush 32, 2) := by decide +kernel
theorem dL_law_167 : decode cL_law 167 = .ok (.lshl, 1) := by decide +kernel
theorem dL_law_168 : decode cL_law 168 = .ok (.aload_n 0, 1) := by decide +kernel
theorem dL_law_169 : decode cL_law 169 = .ok (.iload_n 3, 1) := by decide +kernel
theorem dL_law_170 : decode cL_law 170 = .ok (.iconst 5, 1) := by decide +kernel
theorem dL_law_171 : decode cL_law 171 = .ok (.iadd, 1) := by decide +kernel
theorem dL_law_172 : decode cL_law 172 = .ok (.iaload, 1) := by decide +kernel
theorem dL_law_173 : decode cL_law 173 = .ok (.i2l, 1) := by decide +kernel
theorem dL_law_174 : decode cL_law 174 = .ok (.ldc2_w 13, 3) := by decide +kernel
theorem dL_law_177 : decode cL_law 177 = .ok (.land, 1) := by decide +kernel
theorem dL_law_178 : decode cL_law 178 = .ok (.lor, 1) := by decide +kernel
theorem dL_law_179 : decode cL_law 179 = .ok (.invokevirtual 19, 3) := by decide +kernel
theorem dL_law_182 : decode cL_law 182 = .ok (.if_icmp .eq 290, 3) := by decide +kernel
theorem dL_law_185 : decode cL_law 185 = .ok (.iconst 0, 1) := by decide +kernel
theorem dL_law_186 : decode cL_law 186 = .ok (.ireturn, 1) := by decide +kernel
theorem dL_law_187 : decode cL_law 187 = .ok (.aload_n 1, 1) := by decide +kernel
theorem dL_law_188 : decode cL_law 188 = .ok (.aload_n 0, 1) := by decide +kernel
theorem dL_law_189 : decode cL_law 189 = .ok (.iload_n 3, 1) := by decide +kernel
theorem dL_law_190 : decode cL_law 190 = .ok (.iconst 1, 1) := by decide +kernel
theorem dL_law_191 : decode cL_law 191 = .ok (.iadd, 1) := by decide +kernel
theorem dL_law_192 : decode cL_law 192 = .ok (.iaload, 1) := by decide +kernel
theorem dL_law_193 : decode cL_law 193 = .ok (.aload_n 0, 1) := by decide +kernel
theorem dL_law_194 : decode cL_law 194 = .ok (.iload_n 3, 1) := by decide +kernel
theorem dL_law_195 : decode cL_law 195 = .ok (.iconst 2, 1) := by decide +kernel
theorem dL_law_196 : decode cL_law 196 = .ok (.iadd, 1) := by decide +kernel
theorem dL_law_197 : decode cL_law 197 = .ok (.iaload, 1) := by decide +kernel
theorem dL_law_198 : decode cL_law 198 = .ok (.aload_n 0, 1) := by decide +kernel
theorem dL_law_199 : decode cL_law 199 = .ok (.iload_n 3, 1) := by decide +kernel
theorem dL_law_200 : decode cL_law 200 = .ok (.iconst 3, 1) := by decide +kernel
theorem dL_law_201 : decode cL_law 201 = .ok (.iadd, 1) := by decide +kernel
theorem dL_law_202 : decode cL_law 202 = .ok (.iaload, 1) := by decide +kernel
theorem dL_law_203 : decode cL_law 203 = .ok (.invokevirtual 20, 3) := by decide +kernel
theorem dL_law_206 : decode cL_law 206 = .ok (.aload_n 2, 1) := by decide +kernel
theorem dL_law_207 : decode cL_law 207 = .ok (.aload_n 0, 1) := by decide +kernel
theorem dL_law_208 : decode cL_law 208 = .ok (.iload_n 3, 1) := by decide +kernel
theorem dL_law_209 : decode cL_law 209 = .ok (.iconst 1, 1) := by decide +kernel
theorem dL_law_210 : decode cL_law 210 = .ok (.iadd, 1) := by decide +kernel
theorem dL_law_211 : decode cL_law 211 = .ok (.iaload, 1) := by decide +kernel
theorem dL_law_212 : decode cL_law 212 = .ok (.aload_n 0, 1) := by decide +kernel
theorem dL_law_213 : decode cL_law 213 = .ok (.iload_n 3, 1) := by decide +kernel
theorem dL_law_214 : decode cL_law 214 = .ok (.iconst 2, 1) := by decide +kernel
theorem dL_law_215 : decode cL_law 215 = .ok (.iadd, 1) := by decide +kernel
theorem dL_law_216 : decode cL_law 216 = .ok (.iaload, 1) := by decide +kernel
theorem dL_law_217 : decode cL_law 217 = .ok (.aload_n 0, 1) := by decide +kernel
theorem dL_law_218 : decode cL_law 218 = .ok (.iload_n 3, 1) := by decide +kernel
theorem dL_law_219 : decode cL_law 219 = .ok (.iconst 3, 1) := by decide +kernel
theorem dL_law_220 : decode cL_law 220 = .ok (.iadd, 1) := by decide +kernel
theorem dL_law_221 : decode cL_law 221 = .ok (.iaload, 1) := by decide +kernel
theorem dL_law_222 : decode cL_law 222 = .ok (.invokevirtual 24, 3) := by decide +kernel
theorem dL_law_225 : decode cL_law 225 = .ok (.if_icmp .eq 247, 3) := by decide +kernel
theorem dL_law_228 : decode cL_law 228 = .ok (.iconst 0, 1) := by decide +kernel
theorem dL_law_229 : decode cL_law 229 = .ok (.ireturn, 1) := by decide +kernel
theorem dL_law_230 : decode cL_law 230 = .ok (.aload_n 1, 1) := by decide +kernel
theorem dL_law_231 : decode cL_law 231 = .ok (.aload_n 0, 1) := by decide +kernel
theorem dL_law_232 : decode cL_law 232 = .ok (.iload_n 3, 1) := by decide +kernel
theorem dL_law_233 : decode cL_law 233 = .ok (.iconst 1, 1) := by decide +kernel
theorem dL_law_234 : decode cL_law 234 = .ok (.iadd, 1) := by decide +kernel
theorem dL_law_235 : decode cL_law 235 = .ok (.iaload, 1) := by decide +kernel
theorem dL_law_236 : decode cL_law 236 = .ok (.aload_n 0, 1) := by decide +kernel
theorem dL_law_237 : decode cL_law 237 = .ok (.iload_n 3, 1) := by decide +kernel
theorem dL_law_238 : decode cL_law 238 = .ok (.iconst 2, 1) := by decide +kernel
theorem dL_law_239 : decode cL_law 239 = .ok (.iadd, 1) := by decide +kernel
theorem dL_law_240 : decode cL_law 240 = .ok (.iaload, 1) := by decide +kernel
theorem dL_law_241 : decode cL_law 241 = .ok (.i2l, 1) := by decide +kernel
theorem dL_law_242 : decode cL_law 242 = .ok (.bipush 32, 2) := by decide +kernel
theorem dL_law_244 : decode cL_law 244 = .ok (.lshl, 1) := by decide +kernel
theorem dL_law_245 : decode cL_law 245 = .ok (.aload_n 0, 1) := by decide +kernel
theorem dL_law_246 : decode cL_law 246 = .ok (.iload_n 3, 1) := by decide +kernel
theorem dL_law_247 : decode cL_law 247 = .ok (.iconst 3, 1) := by decide +kernel
theorem dL_law_248 : decode cL_law 248 = .ok (.iadd, 1) := by decide +kernel
theorem dL_law_249 : decode cL_law 249 = .ok (.iaload, 1) := by decide +kernel
theorem dL_law_250 : decode cL_law 250 = .ok (.i2l, 1) := by decide +kernel
theorem dL_law_251 : decode cL_law 251 = .ok (.ldc2_w 13, 3) := by decide +kernel
theorem dL_law_254 : decode cL_law 254 = .ok (.land, 1) := by decide +kernel
theorem dL_law_255 : decode cL_law 255 = .ok (.lor, 1) := by decide +kernel
theorem dL_law_256 : decode cL_law 256 = .ok (.invokevirtual 25, 3) := by decide +kernel
theorem dL_law_259 : decode cL_law 259 = .ok (.aload_n 2, 1) := by decide +kernel
theorem dL_law_260 : decode cL_law 260 = .ok (.aload_n 0, 1) := by decide +kernel
theorem dL_law_261 : decode cL_law 261 = .ok (.iload_n 3, 1) := by decide +kernel
theorem dL_law_262 : decode cL_law 262 = .ok (.iconst 1, 1) := by decide +kernel
theorem dL_law_263 : decode cL_law 263 = .ok (.iadd, 1) := by decide +kernel
theorem dL_law_264 : decode cL_law 264 = .ok (.iaload, 1) := by decide +kernel
theorem dL_law_265 : decode cL_law 265 = .ok (.aload_n 0, 1) := by decide +kernel
theorem dL_law_266 : decode cL_law 266 = .ok (.iload_n 3, 1) := by decide +kernel
theorem dL_law_267 : decode cL_law 267 = .ok (.iconst 2, 1) := by decide +kernel
theorem dL_law_268 : decode cL_law 268 = .ok (.iadd, 1) := by decide +kernel
theorem dL_law_269 : decode cL_law 269 = .ok (.iaload, 1) := by decide +kernel
theorem dL_law_270 : decode cL_law 270 = .ok (.i2l, 1) := by decide +kernel
theorem dL_law_271 : decode cL_law 271 = .ok (.bipush 32, 2) := by decide +kernel
theorem dL_law_273 : decode cL_law 273 = .ok (.lshl, 1) := by decide +kernel
theorem dL_law_274 : decode cL_law 274 = .ok (.aload_n 0, 1) := by decide +kernel
theorem dL_law_275 : decode cL_law 275 = .ok (.iload_n 3, 1) := by decide +kernel
theorem dL_law_276 : decode cL_law 276 = .ok (.iconst 3, 1) := by decide +kernel
theorem dL_law_277 : decode cL_law 277 = .ok (.iadd, 1) := by decide +kernel
theorem dL_law_278 : decode cL_law 278 = .ok (.iaload, 1) := by decide +kernel
theorem dL_law_279 : decode cL_law 279 = .ok (.i2l, 1) := by decide +kernel
theorem dL_law_280 : decode cL_law 280 = .ok (.ldc2_w 13, 3) := by decide +kernel
theorem dL_law_283 : decode cL_law 283 = .ok (.land, 1) := by decide +kernel
theorem dL_law_284 : decode cL_law 284 = .ok (.lor, 1) := by decide +kernel
theorem dL_law_285 : decode cL_law 285 = .ok (.invokevirtual 29, 3) := by decide +kernel
theorem dL_law_288 : decode cL_law 288 = .ok (.if_icmp .eq 184, 3) := by decide +kernel
theorem dL_law_291 : decode cL_law 291 = .ok (.iconst 0, 1) := by decide +kernel
theorem dL_law_292 : decode cL_law 292 = .ok (.ireturn, 1) := by decide +kernel
theorem dL_law_293 : decode cL_law 293 = .ok (.aload_n 1, 1) := by decide +kernel
theorem dL_law_294 : decode cL_law 294 = .ok (.aload_n 0, 1) := by decide +kernel
theorem dL_law_295 : decode cL_law 295 = .ok (.iload_n 3, 1) := by decide +kernel
theorem dL_law_296 : decode cL_law 296 = .ok (.iconst 1, 1) := by decide +kernel
theorem dL_law_297 : decode cL_law 297 = .ok (.iadd, 1) := by decide +kernel
theorem dL_law_298 : decode cL_law 298 = .ok (.iaload, 1) := by decide +kernel
theorem dL_law_299 : decode cL_law 299 = .ok (.aload_n 0, 1) := by decide +kernel
theorem dL_law_300 : decode cL_law 300 = .ok (.iload_n 3, 1) := by decide +kernel
theorem dL_law_301 : decode cL_law 301 = .ok (.iconst 2, 1) := by decide +kernel
theorem dL_law_302 : decode cL_law 302 = .ok (.iadd, 1) := by decide +kernel
theorem dL_law_303 : decode cL_law 303 = .ok (.iaload, 1) := by decide +kernel
theorem dL_law_304 : decode cL_law 304 = .ok (.invokevirtual 30, 3) := by decide +kernel
theorem dL_law_307 : decode cL_law 307 = .ok (.aload_n 2, 1) := by decide +kernel
theorem dL_law_308 : decode cL_law 308 = .ok (.aload_n 0, 1) := by decide +kernel
theorem dL_law_309 : decode cL_law 309 = .ok (.iload_n 3, 1) := by decide +kernel
theorem dL_law_310 : decode cL_law 310 = .ok (.iconst 1, 1) := by decide +kernel
theorem dL_law_311 : decode cL_law 311 = .ok (.iadd, 1) := by decide +kernel
theorem dL_law_312 : decode cL_law 312 = .ok (.iaload, 1) := by decide +kernel
theorem dL_law_313 : decode cL_law 313 = .ok (.aload_n 0, 1) := by decide +kernel
theorem dL_law_314 : decode cL_law 314 = .ok (.iload_n 3, 1) := by decide +kernel
theorem dL_law_315 : decode cL_law 315 = .ok (.iconst 2, 1) := by decide +kernel
theorem dL_law_316 : decode cL_law 316 = .ok (.iadd, 1) := by decide +kernel
theorem dL_law_317 : decode cL_law 317 = .ok (.iaload, 1) := by decide +kernel
theorem dL_law_318 : decode cL_law 318 = .ok (.invokevirtual 34, 3) := by decide +kernel
theorem dL_law_321 : decode cL_law 321 = .ok (.if_icmp .eq 151, 3) := by decide +kernel
theorem dL_law_324 : decode cL_law 324 = .ok (.iconst 0, 1) := by decide +kernel
theorem dL_law_325 : decode cL_law 325 = .ok (.ireturn, 1) := by decide +kernel
theorem dL_law_326 : decode cL_law 326 = .ok (.aload_n 1, 1) := by decide +kernel
theorem dL_law_327 : decode cL_law 327 = .ok (.aload_n 0, 1) := by decide +kernel
theorem dL_law_328 : decode cL_law 328 = .ok (.iload_n 3, 1) := by decide +kernel
theorem dL_law_329 : decode cL_law 329 = .ok (.iconst 1, 1) := by decide +kernel
theorem dL_law_330 : decode cL_law 330 = .ok (.iadd, 1) := by decide +kernel
theorem dL_law_331 : decode cL_law 331 = .ok (.iaload, 1) := by decide +kernel
theorem dL_law_332 : decode cL_law 332 = .ok (.aload_n 0, 1) := by decide +kernel
theorem dL_law_333 : decode cL_law 333 = .ok (.iload_n 3, 1) := by decide +kernel
theorem dL_law_334 : decode cL_law 334 = .ok (.iconst 2, 1) := by decide +kernel
theorem dL_law_335 : decode cL_law 335 = .ok (.iadd, 1) := by decide +kernel
theorem dL_law_336 : decode cL_law 336 = .ok (.iaload, 1) := by decide +kernel
theorem dL_law_337 : decode cL_law 337 = .ok (.aload_n 0, 1) := by decide +kernel
theorem dL_law_338 : decode cL_law 338 = .ok (.iload_n 3, 1) := by decide +kernel
theorem dL_law_339 : decode cL_law 339 = .ok (.iconst 3, 1) := by decide +kernel
theorem dL_law_340 : decode cL_law 340 = .ok (.iadd, 1) := by decide +kernel
theorem dL_law_341 : decode cL_law 341 = .ok (.iaload, 1) := by decide +kernel
theorem dL_law_342 : decode cL_law 342 = .ok (.invokevirtual 35, 3) := by decide +kernel
theorem dL_law_345 : decode cL_law 345 = .ok (.aload_n 2, 1) := by decide +kernel
theorem dL_law_346 : decode cL_law 346 = .ok (.aload_n 0, 1) := by decide +kernel
theorem dL_law_347 : decode cL_law 347 = .ok (.iload_n 3, 1) := by decide +kernel
theorem dL_law_348 : decode cL_law 348 = .ok (.iconst 1, 1) := by decide +kernel
theorem dL_law_349 : decode cL_law 349 = .ok (.iadd, 1) := by decide +kernel
theorem dL_law_350 : decode cL_law 350 = .ok (.iaload, 1) := by decide +kernel
theorem dL_law_351 : decode cL_law 351 = .ok (.aload_n 0, 1) := by decide +kernel
theorem dL_law_352 : decode cL_law 352 = .ok (.iload_n 3, 1) := by decide +kernel
theorem dL_law_353 : decode cL_law 353 = .ok (.iconst 2, 1) := by decide +kernel
theorem dL_law_354 : decode cL_law 354 = .ok (.iadd, 1) := by decide +kernel
theorem dL_law_355 : decode cL_law 355 = .ok (.iaload, 1) := by decide +kernel
theorem dL_law_356 : decode cL_law 356 = .ok (.aload_n 0, 1) := by decide +kernel
theorem dL_law_357 : decode cL_law 357 = .ok (.iload_n 3, 1) := by decide +kernel
theorem dL_law_358 : decode cL_law 358 = .ok (.iconst 3, 1) := by decide +kernel
theorem dL_law_359 : decode cL_law 359 = .ok (.iadd, 1) := by decide +kernel
theorem dL_law_360 : decode cL_law 360 = .ok (.iaload, 1) := by decide +kernel
theorem dL_law_361 : decode cL_law 361 = .ok (.invokevirtual 38, 3) := by decide +kernel
theorem dL_law_364 : decode cL_law 364 = .ok (.if_icmp .eq 108, 3) := by decide +kernel
theorem dL_law_367 : decode cL_law 367 = .ok (.iconst 0, 1) := by decide +kernel
theorem dL_law_368 : decode cL_law 368 = .ok (.ireturn, 1) := by decide +kernel
theorem dL_law_369 : decode cL_law 369 = .ok (.aload_n 1, 1) := by decide +kernel
theorem dL_law_370 : decode cL_law 370 = .ok (.invokevirtual 39, 3) := by decide +kernel
theorem dL_law_373 : decode cL_law 373 = .ok (.aload_n 2, 1) := by decide +kernel
theorem dL_law_374 : decode cL_law 374 = .ok (.invokevirtual 43, 3) := by decide +kernel
theorem dL_law_377 : decode cL_law 377 = .ok (.if_icmp .eq 95, 3) := by decide +kernel
theorem dL_law_380 : decode cL_law 380 = .ok (.iconst 0, 1) := by decide +kernel
theorem dL_law_381 : decode cL_law 381 = .ok (.ireturn, 1) := by decide +kernel
theorem dL_law_382 : decode cL_law 382 = .ok (.aload_n 1, 1) := by decide +kernel
theorem dL_law_383 : decode cL_law 383 = .ok (.aload_n 0, 1) := by decide +kernel
theorem dL_law_384 : decode cL_law 384 = .ok (.iload_n 3, 1) := by decide +kernel
theorem dL_law_385 : decode cL_law 385 = .ok (.iconst 1, 1) := by decide +kernel
theorem dL_law_386 : decode cL_law 386 = .ok (.iadd, 1) := by decide +kernel
theorem dL_law_387 : decode cL_law 387 = .ok (.iaload, 1) := by decide +kernel
theorem dL_law_388 : decode cL_law 388 = .ok (.aload_n 0, 1) := by decide +kernel
theorem dL_law_389 : decode cL_law 389 = .ok (.iload_n 3, 1) := by decide +kernel
theorem dL_law_390 : decode cL_law 390 = .ok (.iconst 2, 1) := by decide +kernel
theorem dL_law_391 : decode cL_law 391 = .ok (.iadd, 1) := by decide +kernel
theorem dL_law_392 : decode cL_law 392 = .ok (.iaload, 1) := by decide +kernel
theorem dL_law_393 : decode cL_law 393 = .ok (.invokevirtual 44, 3) := by decide +kernel
theorem dL_law_396 : decode cL_law 396 = .ok (.aload_n 2, 1) := by decide +kernel
theorem dL_law_397 : decode cL_law 397 = .ok (.aload_n 0, 1) := by decide +kernel
theorem dL_law_398 : decode cL_law 398 = .ok (.iload_n 3, 1) := by decide +kernel
theorem dL_law_399 : decode cL_law 399 = .ok (.iconst 1, 1) := by decide +kernel
theorem dL_law_400 : decode cL_law 400 = .ok (.iadd, 1) := by decide +kernel
theorem dL_law_401 : decode cL_law 401 = .ok (.iaload, 1) := by decide +kernel
theorem dL_law_402 : decode cL_law 402 = .ok (.aload_n 0, 1) := by decide +kernel
theorem dL_law_403 : decode cL_law 403 = .ok (.iload_n 3, 1) := by decide +kernel
theorem dL_law_404 : decode cL_law 404 = .ok (.iconst 2, 1) := by decide +kernel
theorem dL_law_405 : decode cL_law 405 = .ok (.iadd, 1) := by decide +kernel
theorem dL_law_406 : decode cL_law 406 = .ok (.iaload, 1) := by decide +kernel
theorem dL_law_407 : decode cL_law 407 = .ok (.invokevirtual 47, 3) := by decide +kernel
theorem dL_law_410 : decode cL_law 410 = .ok (.if_icmp .eq 62, 3) := by decide +kernel
theorem dL_law_413 : decode cL_law 413 = .ok (.iconst 0, 1) := by decide +kernel
theorem dL_law_414 : decode cL_law 414 = .ok (.ireturn, 1) := by decide +kernel
theorem dL_law_415 : decode cL_law 415 = .ok (.aload_n 1, 1) := by decide +kernel
theorem dL_law_416 : decode cL_law 416 = .ok (.aload_n 0, 1) := by decide +kernel
theorem dL_law_417 : decode cL_law 417 = .ok (.iload_n 3, 1) := by decide +kernel
theorem dL_law_418 : decode cL_law 418 = .ok (.iconst 1, 1) := by decide +kernel
theorem dL_law_419 : decode cL_law 419 = .ok (.iadd, 1) := by decide +kernel
theorem dL_law_420 : decode cL_law 420 = .ok (.iaload, 1) := by decide +kernel
theorem dL_law_421 : decode cL_law 421 = .ok (.aload_n 0, 1) := by decide +kernel
theorem dL_law_422 : decode cL_law 422 = .ok (.iload_n 3, 1) := by decide +kernel
theorem dL_law_423 : decode cL_law 423 = .ok (.iconst 2, 1) := by decide +kernel
end
section
theorem dL_law_424 : decode cL_law 424 = .ok (.iadd, 1) := by decide +kernel
theorem dL_law_425 : decode cL_law 425 = .ok (.iaload, 1) := by decide +kernel
theorem dL_law_426 : decode cL_law 426 = .ok (.invokevirtual 48, 3) := by decide +kernel
theorem dL_law_429 : decode cL_law 429 = .ok (.aload_n 2, 1) := by decide +kernel
theorem dL_law_430 : decode cL_law 430 = .ok (.aload_n 0, 1) := by decide +kernel
theorem dL_law_431 : decode cL_law 431 = .ok (.iload_n 3, 1) := by decide +kernel
theorem dL_law_432 : decode cL_law 432 = .ok (.iconst 1, 1) := by decide +kernel
theorem dL_law_433 : decode cL_law 433 = .ok (.iadd, 1) := by decide +kernel
theorem dL_law_434 : decode cL_law 434 = .ok (.iaload, 1) := by decide +kernel
theorem dL_law_435 : decode cL_law 435 = .ok (.aload_n 0, 1) := by decide +kernel
theorem dL_law_436 : decode cL_law 436 = .ok (.iload_n 3, 1) := by decide +kernel
theorem dL_law_437 : decode cL_law 437 = .ok (.iconst 2, 1) := by decide +kernel
theorem dL_law_438 : decode cL_law 438 = .ok (.iadd, 1) := by decide +kernel
theorem dL_law_439 : decode cL_law 439 = .ok (.iaload, 1) := by decide +kernel
theorem dL_law_440 : decode cL_law 440 = .ok (.invokevirtual 52, 3) := by decide +kernel
theorem dL_law_443 : decode cL_law 443 = .ok (.lcmp, 1) := by decide +kernel
theorem dL_law_444 : decode cL_law 444 = .ok (.ifCond .eq 28, 3) := by decide +kernel
theorem dL_law_447 : decode cL_law 447 = .ok (.iconst 0, 1) := by decide +kernel
theorem dL_law_448 : decode cL_law 448 = .ok (.ireturn, 1) := by decide +kernel
theorem dL_law_449 : decode cL_law 449 = .ok (.aload_n 1, 1) := by decide +kernel
theorem dL_law_450 : decode cL_law 450 = .ok (.aload_n 0, 1) := by decide +kernel
theorem dL_law_451 : decode cL_law 451 = .ok (.iload_n 3, 1) := by decide +kernel
theorem dL_law_452 : decode cL_law 452 = .ok (.iconst 1, 1) := by decide +kernel
theorem dL_law_453 : decode cL_law 453 = .ok (.iadd, 1) := by decide +kernel
theorem dL_law_454 : decode cL_law 454 = .ok (.iaload, 1) := by decide +kernel
theorem dL_law_455 : decode cL_law 455 = .ok (.invokevirtual 53, 3) := by decide +kernel
theorem dL_law_458 : decode cL_law 458 = .ok (.aload_n 2, 1) := by decide +kernel
theorem dL_law_459 : decode cL_law 459 = .ok (.aload_n 0, 1) := by decide +kernel
theorem dL_law_460 : decode cL_law 460 = .ok (.iload_n 3, 1) := by decide +kernel
theorem dL_law_461 : decode cL_law 461 = .ok (.iconst 1, 1) := by decide +kernel
theorem dL_law_462 : decode cL_law 462 = .ok (.iadd, 1) := by decide +kernel
theorem dL_law_463 : decode cL_law 463 = .ok (.iaload, 1) := by decide +kernel
theorem dL_law_464 : decode cL_law 464 = .ok (.invokevirtual 57, 3) := by decide +kernel
theorem dL_law_467 : decode cL_law 467 = .ok (.if_icmp .eq 5, 3) := by decide +kernel
theorem dL_law_470 : decode cL_law 470 = .ok (.iconst 0, 1) := by decide +kernel
theorem dL_law_471 : decode cL_law 471 = .ok (.ireturn, 1) := by decide +kernel
theorem dL_law_472 : decode cL_law 472 = .ok (.iinc 3 6, 3) := by decide +kernel
theorem dL_law_475 : decode cL_law 475 = .ok (.goto (-457), 3) := by decide +kernel
theorem dL_law_478 : decode cL_law 478 = .ok (.iconst 1, 1) := by decide +kernel
theorem dL_law_479 : decode cL_law 479 = .ok (.ireturn, 1) := by decide +kernel
abbrev vwCl : List vw_C := [(RX1, TX1, 4), (RX2, TX2, 14), (RX3, TX3, 19)]
end
section
set_option maxRecDepth 20000 in
theorem wsL_law_r1_in : ∀ w ∈ wsL_law_r1, w ∈ lw_tbl := fun w h => (goodIn_p wsL_law_r1 [45, 48] (by decide +kernel) (by decide +kernel) w h).1
set_option maxRecDepth 20000 in
theorem wsL_law_r2_in : ∀ w ∈ wsL_law_r2, w ∈ lw_tbl := fun w h => (goodIn_p wsL_law_r2 [53, 285] (by decide +kernel) (by decide +kernel) w h).1
set_option maxRecDepth 20000 in
theorem wsL_law_r3_in : ∀ w ∈ wsL_law_r3, w ∈ lw_tbl := fun w h => (goodIn_p wsL_law_r3 [117, 121, 124] (by decide +kernel) (by decide +kernel) w h).1
set_option maxRecDepth 20000 in
theorem wsL_law_r4_in : ∀ w ∈ wsL_law_r4, w ∈ lw_tbl := fun w h => (goodIn_p wsL_law_r4 [132, 135, 138, 141, 144, 147, 151, 348] (by decide +kernel) (by decide +kernel) w h).1
set_option maxRecDepth 20000 in
theorem wsL_law_r5_in : ∀ w ∈ wsL_law_r5, w ∈ lw_tbl := fun w h => (goodIn_p wsL_law_r5 [352, 356, 362, 369] (by decide +kernel) (by decide +kernel) w h).1
set_option maxRecDepth 20000 in
theorem wsL_law_r6_in : ∀ w ∈ wsL_law_r6, w ∈ lw_tbl := fun w h => (goodIn_p wsL_law_r6 [373, 377, 381, 385, 389, 155] (by decide +kernel) (by decide +kernel) w h).1
set_option maxRecDepth 20000 in
theorem wsL_law_r7_in : ∀ w ∈ wsL_law_r7, w ∈ lw_tbl := fun w h => (goodIn_p wsL_law_r7 [159, 162, 166, 170, 393] (by decide +kernel) (by decide +kernel) w h).1
set_option maxRecDepth 20000 in
theorem wsL_law_r8_in : ∀ w ∈ wsL_law_r8, w ∈ lw_tbl := fun w h => (goodIn_p wsL_law_r8 [397, 401, 175, 179, 183, 187] (by decide +kernel) (by decide +kernel) w h).1
set_option maxRecDepth 20000 in
theorem wsL_law_r9_in : ∀ w ∈ wsL_law_r9, w ∈ lw_tbl := fun w h => (goodIn_p wsL_law_r9 [191, 195, 202, 207] (by decide +kernel) (by decide +kernel) w h).1
set_option maxRecDepth 20000 in
theorem wsL_law_r10_in : ∀ w ∈ wsL_law_r10, w ∈ lw_tbl := fun w h => (goodIn_p wsL_law_r10 [211, 214, 217, 405, 409, 413] (by decide +kernel) (by decide +kernel) w h).1
set_option maxRecDepth 20000 in
theorem wsL_law_r11_in : ∀ w ∈ wsL_law_r11, w ∈ lw_tbl := fun w h => (goodIn_p wsL_law_r11 [417, 421, 425, 429, 435] (by decide +kernel) (by decide +kernel) w h).1
set_option maxRecDepth 20000 in
theorem wsL_law_r12_in : ∀ w ∈ wsL_law_r12, w ∈ lw_tbl := fun w h => (goodIn_p wsL_law_r12 [439, 221, 225, 228, 232, 237] (by decide +kernel) (by decide +kernel) w h).1
set_option maxRecDepth 20000 in
theorem wsL_law_r13_in : ∀ w ∈ wsL_law_r13, w ∈ lw_tbl := fun w h => (goodIn_p wsL_law_r13 [241, 244, 443, 447, 451, 455] (by decide +kernel) (by decide +kernel) w h).1
set_option maxRecDepth 20000 in
theorem wsL_law_r14_in : ∀ w ∈ wsL_law_r14, w ∈ lw_tbl := fun w h => (goodIn_p wsL_law_r14 [248, 252, 461, 256, 260, 264] (by decide +kernel) (by decide +kernel) w h).1
set_option maxRecDepth 20000 in
theorem wsL_law_r15_in : ∀ w ∈ wsL_law_r15, w ∈ lw_tbl := fun w h => (goodIn_p wsL_law_r15 [465, 268, 272, 469, 276, 473] (by decide +kernel) (by decide +kernel) w h).1
set_option maxRecDepth 20000 in
theorem wsL_law_r16_in : ∀ w ∈ wsL_law_r16, w ∈ lw_tbl := fun w h => (goodIn_p wsL_law_r16 [280, 477] (by decide +kernel) (by decide +kernel) w h).1
set_option maxRecDepth 20000 in
theorem inX2 : ∀ w ∈ wsX20, w ∈ lw_tbl := fun w h => (goodIn_p wsX20 [] (by decide +kernel) (by decide +kernel) w h).1
set_option maxRecDepth 20000 in
theorem inX3 : ∀ w ∈ wsX30, w ∈ lw_tbl := fun w h => (goodIn_p wsX30 [] (by decide +kernel) (by decide +kernel) w h).1
set_option maxRecDepth 20000 in
theorem inX1 : ∀ w ∈ wsX10, w ∈ lw_tbl := fun w h => (goodIn_p wsX10 [] (by decide +kernel) (by decide +kernel) w h).1
theorem wsL_law_in : ∀ w ∈ wsL_law, w ∈ lw_tbl := by
  unfold wsL_law
  exact List.forall_mem_append.mpr ⟨List.forall_mem_append.mpr ⟨List.forall_mem_append.mpr ⟨List.forall_mem_append.mpr ⟨List.forall_mem_append.mpr ⟨wsL_law_r1_in, List.forall_mem_append.mpr ⟨wsL_law_r2_in, List.forall_mem_append.mpr ⟨wsL_law_r3_in, List.forall_mem_append.mpr ⟨wsL_law_r4_in, List.forall_mem_append.mpr ⟨wsL_law_r5_in, List.forall_mem_append.mpr ⟨wsL_law_r6_in, List.forall_mem_append.mpr ⟨wsL_law_r7_in, List.forall_mem_append.mpr ⟨wsL_law_r8_in, List.forall_mem_append.mpr ⟨wsL_law_r9_in, List.forall_mem_append.mpr ⟨wsL_law_r10_in, List.forall_mem_append.mpr ⟨wsL_law_r11_in, List.forall_mem_append.mpr ⟨wsL_law_r12_in, List.forall_mem_append.mpr ⟨wsL_law_r13_in, List.forall_mem_append.mpr ⟨wsL_law_r14_in, List.forall_mem_append.mpr ⟨wsL_law_r15_in, wsL_law_r16_in⟩⟩⟩⟩⟩⟩⟩⟩⟩⟩⟩⟩⟩⟩⟩, inX2⟩, inX3⟩, inX1⟩, (fun _ h => absurd h List.not_mem_nil)⟩
end
section
/-! the state of the two systems as cells: the class (wX) and the reference (wM); the array classes (tA) -/
abbrev wX (cI cJ cZ : ClassId) (a : Nat → Nat) (kd : Nat → Int32) (lo : Nat → Int64) (hi : Nat → Int64) (vl : Nat → Int64) (nd : Int32) (so : Nat → Int32) (fr : Nat → Int32) (tg : Nat → Int32) (gn : Nat → Int32) (nr : Int32) (mo : Int32) (ma : Int32) (fa : Int32) (sv : Nat → Int64) (sd : Nat → Int32) (se : Int32) (sh : Int32) : va_W := [(a 0, .inr (1, [.ref (a 1), .ref (a 2), .ref (a 3), .ref (a 4), .int nd, .ref (a 5), .ref (a 6), .ref (a 7), .ref (a 8), .int nr, .ref (a 9), .int mo, .int ma, .int fa])), (a 1, .inl (cI, 16, .inl kd)), (a 2, .inl (cJ, 16, .inr (.inl lo))), (a 3, .inl (cJ, 16, .inr (.inl hi))), (a 4, .inl (cJ, 16, .inr (.inl vl))), (a 5, .inl (cI, 24, .inl so)), (a 6, .inl (cI, 24, .inl fr)), (a 7, .inl (cI, 24, .inl tg)), (a 8, .inl (cZ, 24, .inl gn)), (a 9, .inr (0, [.ref (a 10), .ref (a 11), .int se, .int sh])), (a 10, .inl (cJ, 96, .inr (.inl sv))), (a 11, .inl (cI, 6, .inl sd))]
abbrev wM (cI cJ cZ : ClassId) (b : Nat → Nat) (kd : Nat → Int32) (vl : Nat → Int64) (lo : Nat → Int64) (hi : Nat → Int64) (nd : Int32) (so : Nat → Int32) (fr : Nat → Int32) (tg : Nat → Int32) (gn : Nat → Int32) (nr : Int32) (kp : Nat → Int64) (ah : Nat → Int64) (kx : Nat → Int32) (st : Int32) (mo : Int32) (ma : Int32) (fa : Int32) (op : Nat → Int32) (nx : Nat → Int32) : va_W := [(b 0, .inr (2, [.ref (b 1), .ref (b 2), .ref (b 3), .ref (b 4), .int nd, .ref (b 5), .ref (b 6), .ref (b 7), .ref (b 8), .int nr, .ref (b 9), .ref (b 10), .ref (b 11), .int st, .int mo, .int ma, .int fa, .ref (b 12), .ref (b 13)])), (b 1, .inl (cI, 16, .inl kd)), (b 2, .inl (cJ, 16, .inr (.inl vl))), (b 3, .inl (cJ, 16, .inr (.inl lo))), (b 4, .inl (cJ, 16, .inr (.inl hi))), (b 5, .inl (cI, 24, .inl so)), (b 6, .inl (cI, 24, .inl fr)), (b 7, .inl (cI, 24, .inl tg)), (b 8, .inl (cZ, 24, .inl gn)), (b 9, .inl (cJ, 96, .inr (.inl kp))), (b 10, .inl (cJ, 16, .inr (.inl ah))), (b 11, .inl (cI, 6, .inl kx)), (b 12, .inl (cI, 26, .inl op)), (b 13, .inl (cI, 26, .inl nx))]
abbrev tA (cI cJ cZ : ClassId) : List (ClassId × FieldType) := [(cI, .int), (cJ, .long), (cZ, .boolean)]
abbrev XS : Type := (Nat → Int32) × (Nat → Int64) × (Nat → Int64) × (Nat → Int64) × Int32 × (Nat → Int32) × (Nat → Int32) × (Nat → Int32) × (Nat → Int32) × Int32 × Int32 × Int32 × Int32 × (Nat → Int64) × (Nat → Int32) × Int32 × Int32
abbrev at_X (dC : Nat → ClassId) (dI : Nat → Nat → Nat) (cI cJ cZ : ClassId) (A : Nat → Prop) (a : Nat → Nat) (u : XS) (t : State) : Prop := match u with
  | (kd, lo, hi, vl, nd, so, fr, tg, gn, nr, mo, ma, fa, sv, sd, se, sh) => va_P (dC, dI) vwCl (wX cI cJ cZ a kd lo hi vl nd so fr tg gn nr mo ma fa sv sd se sh) t.heap ∧ va_K (dC, dI) vwCl (tA cI cJ cZ) t ∧ va_D A (wX cI cJ cZ a kd lo hi vl nd so fr tg gn nr mo ma fa sv sd se sh)
abbrev MS : Type := (Nat → Int32) × (Nat → Int64) × (Nat → Int64) × (Nat → Int64) × Int32 × (Nat → Int32) × (Nat → Int32) × (Nat → Int32) × (Nat → Int32) × Int32 × (Nat → Int64) × (Nat → Int64) × (Nat → Int32) × Int32 × Int32 × Int32 × Int32 × (Nat → Int32) × (Nat → Int32)
abbrev at_M (dC : Nat → ClassId) (dI : Nat → Nat → Nat) (cI cJ cZ : ClassId) (A : Nat → Prop) (b : Nat → Nat) (u : MS) (t : State) : Prop := match u with
  | (kd, vl, lo, hi, nd, so, fr, tg, gn, nr, kp, ah, kx, st, mo, ma, fa, op, nx) => va_P (dC, dI) vwCl (wM cI cJ cZ b kd vl lo hi nd so fr tg gn nr kp ah kx st mo ma fa op nx) t.heap ∧ va_K (dC, dI) vwCl (tA cI cJ cZ) t ∧ va_D A (wM cI cJ cZ b kd vl lo hi nd so fr tg gn nr kp ah kx st mo ma fa op nx)
theorem nar_0 : vp_nar .boolean 0 = 0 := by decide +kernel
theorem nar_1 : vp_nar .boolean 1 = 1 := by decide +kernel
theorem fb_s {s : State} {H : Heap} {av : List Value} : PreS s H (va_Pc av (fun _ => True)) av := ⟨fun a U g mk q => ⟨q.1, trivial⟩, fun U hU hW => ⟨rfl, trivial⟩⟩
theorem fb_v {s : State} {H : Heap} {D : va_G} {cl : List vw_C} {tys : List (ClassId × FieldType)} {ws : va_W} {C : String} {b : Nat} {As : List Value} (hK : va_K D cl tys s) (hP : va_P D cl ws H) (hc : ∃ cell : Cell, H[b]? = some cell ∧ cell.vm.isStatics = false ∧ s.vm.findClass C = some cell.cls) : PreV s H C b (va_Pc (.ref b :: As) (fun U => va_P D cl ws U.heap ∧ va_K D cl tys U)) As := ⟨fun a U g mk q => ⟨q.1, q.2.1, va_K.moved (u := U) (U := U.calling g mk a) (Vm.Alike.refl U.vm) q.2.2⟩, hc, fun U hU hW => ⟨rfl, by rw [hU]; exact hP, va_K.moved hW.alike hK⟩⟩
theorem fb_m {s : State} {H : Heap} {D : va_G} {cl : List vw_C} {tys : List (ClassId × FieldType)} {ws : va_W} {A : Nat → Prop} {C : String} {b : Nat} {As : List Value} (hK : va_K D cl tys s) (hP : va_P D cl ws H) (hD : va_D A ws) (hc : ∃ cell : Cell, H[b]? = some cell ∧ cell.vm.isStatics = false ∧ s.vm.findClass C = some cell.cls) : PreV s H C b (va_Pc (.ref b :: As) (fun U => U.heap.size = H.size ∧ va_P D cl ws U.heap ∧ va_K D cl tys U ∧ va_D (fun _ => True) ws)) As := ⟨fun a U g mk q => ⟨q.1, q.2.1, q.2.2.1, va_K.moved (u := U) (U := U.calling g mk a) (Vm.Alike.refl U.vm) q.2.2.2.1, q.2.2.2.2⟩, hc, fun U hU hW => ⟨rfl, by rw [hU], by rw [hU]; exact hP, va_K.moved hW.alike hK, hD.weaken (fun _ _ _ _ => trivial)⟩⟩
section JN
variable {p : Program} {l : Launch} {e : Env} {R : Room} {s : State} {m : MethodId} {args : Array Value} {below : List Frame} {meth : Method} {c : Code} {H : Heap} {locs : List Loc} {cells slots : Nat} {Q : State → Prop}
/-- where two roads meet with one value: the rest is walked once -/
theorem lv_join {α : Type} {val : α} {g : α → JFrame} {g0 : JFrame} (k : ∀ v, v = val → W p l e R s m args below meth c H locs cells slots Q (g v)) (h : (∀ v, v = val → W p l e R s m args below meth c H locs cells slots Q (g v)) → W p l e R s m args below meth c H locs cells slots Q g0) : W p l e R s m args below meth c H locs cells slots Q g0 := h k
variable {pc : Nat} {ls : Array Slot} {rest st0 : List Value} {a : Array Value}
/-- a call that leaves the heap as it is and answers a known value -/
theorem cs_i {val : Int32} (hr : CallRun p l e R s m args below meth c H locs cells slots 0 0 (F0 m pc ls st0) rest (vp_Si (fun r => r = val) a) (fun _ => False)) (kk : W p l e R s m args below meth c H locs cells slots Q (F0 m (pc + 3) ls (.int val :: rest))) : W p l e R s m args below meth c H locs cells slots Q (F0 m pc ls st0) := vp_callSi hr (fun r h => by rw [h]; exact kk)
theorem cs_l {val : Int64} (hr : CallRun p l e R s m args below meth c H locs cells slots 0 0 (F0 m pc ls st0) rest (vp_Sl (fun r => r = val) a) (fun _ => False)) (kk : W p l e R s m args below meth c H locs cells slots Q (F0 m (pc + 3) ls (.long val :: rest))) : W p l e R s m args below meth c H locs cells slots Q (F0 m pc ls st0) := vp_callSl hr (fun r h => by rw [h]; exact kk)
end JN
theorem nz_b {v : Int32} (h : v = 0 ∨ v = 1) : narrow .boolean (.int v) = .int v := by rcases h with rfl | rfl <;> rfl
end
section
def n_isReal (p0 : Int32) : Int32 :=
  if p0 = (2 : Int32) then (1 : Int32)
  else if p0 = (3 : Int32) then (1 : Int32)
    else (0 : Int32)
set_option maxHeartbeats 4000000 in
set_option maxRecDepth 100000 in
theorem c_X0_isReal (l : Launch) (p0 : Int32) : Met l yX0_isReal wsX0_isReal ({ frames := 0, cells := 0, slots := 0, locals := 0 }) (va_Pc [.int p0] (fun _ => True)) (vp_Si (fun r => r = n_isReal p0)) 0 0 (fun _ => False) := by
  refine Met.ofW (cc := cX0_isReal) (maxL := 1) (ret := (some .boolean)) (by decide) rfl ?_
  intro p e s m args below meth c s₁ B hml hv
  obtain ⟨rfl, -⟩ := hv
  have hx := B.exec
  have hb := B.bytes
  have hr := B.returns
  have hts := atoms_spec (ws := wsX0_isReal) B.pre
  have hown : s.vm.findClass RX0 = some m.cls := findClass_of_methodNamed B.named
  have hlocks := B.notSynchronized
  have hl := lv_entry ([.int p0]) (n := 1) (Nat.le_of_ble_eq_true rfl)
  rw [lg_entry_eq]
  generalize (lg_sl ([.int p0]) ++ List.replicate (1 - (lg_sl ([.int p0])).length) Slot.unset).toArray = ls at hl ⊢
  have hl : lv_has ls 1 [(0, .int p0)] := hl
  refine lv_iload_n hx hb dX0_isReal_0 rfl (lv_at hl 0 rfl) ?_
  refine lv_iconst (v := 2) hx hb dX0_isReal_1 (by decide) ?_
  refine lv_icmp_eq (tgt := 10) hx hb dX0_isReal_2 (by decide) (fun c_1 => ?_) (fun c_1 => ?_)
  · skip
    refine lv_iconst (v := 1) hx hb dX0_isReal_10 (by decide) ?_
    refine lv_goto (tgt := 15) hx hb dX0_isReal_11 (by decide) ?_
    exact W.zret (v := (1 : Int32)) hx hb hr (by first | rfl | decide | assumption) (fun t ht hW => ⟨_, rfl, (by unfold n_isReal; rw [if_pos c_1]), ht⟩) (fun _ h => by cases h) dX0_isReal_15
  · skip
    refine lv_iload_n hx hb dX0_isReal_5 rfl (lv_at hl 0 rfl) ?_
    refine lv_iconst (v := 3) hx hb dX0_isReal_6 (by decide) ?_
    refine lv_icmp_ne (tgt := 14) hx hb dX0_isReal_7 (by decide) (fun c_2 => ?_) (fun c_2 => ?_)
    · skip
      refine lv_iconst (v := 0) hx hb dX0_isReal_14 (by decide) ?_
      exact W.zret (v := (0 : Int32)) hx hb hr (by first | rfl | decide | assumption) (fun t ht hW => ⟨_, rfl, (by unfold n_isReal; rw [if_neg c_1, if_neg c_2]), ht⟩) (fun _ h => by cases h) dX0_isReal_15
    · skip
      refine lv_iconst (v := 1) hx hb dX0_isReal_10 (by decide) ?_
      refine lv_goto (tgt := 15) hx hb dX0_isReal_11 (by decide) ?_
      exact W.zret (v := (1 : Int32)) hx hb hr (by first | rfl | decide | assumption) (fun t ht hW => ⟨_, rfl, (by unfold n_isReal; rw [if_neg c_1, if_pos c_2]), ht⟩) (fun _ h => by cases h) dX0_isReal_15
def n_isOfKind (p0 : Int32) (p1 : Int64) : Int32 :=
  if p1 < (-2147483648 : Int64) then (if p0 = 0 then (0 : Int32)
    else if p0 = 1 then (1 : Int32)
      else if p0 = 2 then (0 : Int32)
        else if p0 = 3 then (if (9218868437227405312 : Int64) < (p1 &&& (9223372036854775807 : Int64)) then (0 : Int32)
            else (1 : Int32))
          else (1 : Int32))
  else if (2147483647 : Int64) < p1 then (if p0 = 0 then (0 : Int32)
      else if p0 = 1 then (1 : Int32)
        else if p0 = 2 then (0 : Int32)
          else if p0 = 3 then (if (9218868437227405312 : Int64) < (p1 &&& (9223372036854775807 : Int64)) then (0 : Int32)
              else (1 : Int32))
            else (1 : Int32))
    else if p0 = 0 then (1 : Int32)
      else if p0 = 1 then (1 : Int32)
        else if p0 = 2 then (if (2139095040 : Int64) < (p1 &&& (2147483647 : Int64)) then (0 : Int32)
            else (1 : Int32))
          else if p0 = 3 then (if (9218868437227405312 : Int64) < (p1 &&& (9223372036854775807 : Int64)) then (0 : Int32)
              else (1 : Int32))
            else (1 : Int32)
set_option maxHeartbeats 4000000 in
set_option maxRecDepth 100000 in
theorem c_X0_isOfKind (l : Launch) (p0 : Int32) (p1 : Int64) : Met l yX0_isOfKind wsX0_isOfKind ({ frames := 0, cells := 0, slots := 0, locals := 0 }) (va_Pc [.int p0, .long p1] (fun _ => True)) (vp_Si (fun r => r = n_isOfKind p0 p1)) 0 0 (fun _ => False) := by
  refine Met.ofW (cc := cX0_isOfKind) (maxL := 4) (ret := (some .boolean)) (by decide) rfl ?_
  intro p e s m args below meth c s₁ B hml hv
  obtain ⟨rfl, -⟩ := hv
  have hx := B.exec
  have hb := B.bytes
  have hr := B.returns
  have hts := atoms_spec (ws := wsX0_isOfKind) B.pre
  have hown : s.vm.findClass RX0 = some m.cls := findClass_of_methodNamed B.named
  have hlocks := B.notSynchronized
  have k_0 := hts (.constantLong RX0 11 (-2147483648)) (by decide +kernel)
  have k_1 := hts (.constantLong RX0 19 (9223372036854775807)) (by decide +kernel)
  have k_2 := hts (.constantLong RX0 21 (9218868437227405312)) (by decide +kernel)
  have k_3 := hts (.constantLong RX0 13 (2147483647)) (by decide +kernel)
  have k_4 := hts (.constantLong RX0 17 (2139095040)) (by decide +kernel)
  have hl := lv_entry ([.int p0, .long p1]) (n := 4) (Nat.le_of_ble_eq_true rfl)
  rw [lg_entry_eq]
  generalize (lg_sl ([.int p0, .long p1]) ++ List.replicate (4 - (lg_sl ([.int p0, .long p1])).length) Slot.unset).toArray = ls at hl ⊢
  have hl : lv_has ls 4 [(0, .int p0), (1, .long p1)] := hl
  refine lv_lload_n hx hb dX0_isOfKind_0 rfl (lv_at hl 1 rfl) ?_
  refine lv_ldc2 hx hb hown k_0 dX0_isOfKind_1 ?_
  refine W.lcmp hx hb dX0_isOfKind_4 ?_
  refine lv_if_lt (tgt := 20) hx hb dX0_isOfKind_5 (by decide) (fun c_1 => ?_) (fun c_1 => ?_)
  · skip
    have c_1 : p1 < (-2147483648 : Int64) := (lg_cmp_lt _ _).mp c_1
    refine lv_iconst (v := 0) hx hb dX0_isOfKind_20 (by decide) ?_
    refine lv_istore_n (lv' := [(3, .int (0 : Int32)), (0, .int p0), (1, .long p1)]) hx hb dX0_isOfKind_21 rfl hl (by decide) rfl (fun ls hl => ?_)
    refine lv_iload_n hx hb dX0_isOfKind_22 rfl (lv_at hl 1 rfl) ?_
    by_cases c_2 : p0 = 0
    · skip
      refine lv_tableIn (off := 29) (tgt := 52) hx hb dX0_isOfKind_23 (by rw [c_2]; decide) (by rw [c_2]; decide) (by rw [c_2]; rfl) (by decide) ?_
      refine lv_iload_n hx hb dX0_isOfKind_52 rfl (lv_at hl 0 rfl) ?_
      exact W.zret (v := (0 : Int32)) hx hb hr (by first | rfl | decide | assumption) (fun t ht hW => ⟨_, rfl, (by unfold n_isOfKind; rw [if_pos c_1, if_pos c_2]), ht⟩) (fun _ h => by cases h) dX0_isOfKind_53
    · skip
      by_cases c_3 : p0 = 1
      · skip
        refine lv_tableIn (off := 71) (tgt := 94) hx hb dX0_isOfKind_23 (by rw [c_3]; decide) (by rw [c_3]; decide) (by rw [c_3]; rfl) (by decide) ?_
        refine lv_iconst (v := 1) hx hb dX0_isOfKind_94 (by decide) ?_
        exact W.zret (v := (1 : Int32)) hx hb hr (by first | rfl | decide | assumption) (fun t ht hW => ⟨_, rfl, (by unfold n_isOfKind; rw [if_pos c_1, if_neg c_2, if_pos c_3]), ht⟩) (fun _ h => by cases h) dX0_isOfKind_95
      · skip
        by_cases c_4 : p0 = 2
        · skip
          refine lv_tableIn (off := 31) (tgt := 54) hx hb dX0_isOfKind_23 (by rw [c_4]; decide) (by rw [c_4]; decide) (by rw [c_4]; rfl) (by decide) ?_
          refine lv_iload_n hx hb dX0_isOfKind_54 rfl (lv_at hl 0 rfl) ?_
          refine lv_if_eq (tgt := 74) hx hb dX0_isOfKind_55 (by decide) (fun c_5 => ?_) (fun c_5 => ?_)
          · skip
            refine lv_iconst (v := 0) hx hb dX0_isOfKind_74 (by decide) ?_
            exact W.zret (v := (0 : Int32)) hx hb hr (by first | rfl | decide | assumption) (fun t ht hW => ⟨_, rfl, (by unfold n_isOfKind; rw [if_pos c_1, if_neg c_2, if_neg c_3, if_pos c_4]), ht⟩) (fun _ h => by cases h) dX0_isOfKind_75
          · skip
            exact absurd (by decide) c_5
        · skip
          by_cases c_6 : p0 = 3
          · skip
            refine lv_tableIn (off := 53) (tgt := 76) hx hb dX0_isOfKind_23 (by rw [c_6]; decide) (by rw [c_6]; decide) (by rw [c_6]; rfl) (by decide) ?_
            refine lv_lload_n hx hb dX0_isOfKind_76 rfl (lv_at hl 2 rfl) ?_
            refine lv_ldc2 hx hb hown k_1 dX0_isOfKind_77 ?_
            refine lv_land hx hb dX0_isOfKind_80 ?_
            refine lv_ldc2 hx hb hown k_2 dX0_isOfKind_81 ?_
            refine W.lcmp hx hb dX0_isOfKind_84 ?_
            refine lv_if_gt (tgt := 92) hx hb dX0_isOfKind_85 (by decide) (fun c_7 => ?_) (fun c_7 => ?_)
            · skip
              have c_7 : (9218868437227405312 : Int64) < (p1 &&& (9223372036854775807 : Int64)) := (lg_cmp_gt _ _).mp c_7
              refine lv_iconst (v := 0) hx hb dX0_isOfKind_92 (by decide) ?_
              exact W.zret (v := (0 : Int32)) hx hb hr (by first | rfl | decide | assumption) (fun t ht hW => ⟨_, rfl, (by unfold n_isOfKind; rw [if_pos c_1, if_neg c_2, if_neg c_3, if_neg c_4, if_pos c_6, if_pos c_7]), ht⟩) (fun _ h => by cases h) dX0_isOfKind_93
            · skip
              have c_7 : ¬ ((9218868437227405312 : Int64) < (p1 &&& (9223372036854775807 : Int64))) := fun h => c_7 ((lg_cmp_gt _ _).mpr h)
              refine lv_iconst (v := 1) hx hb dX0_isOfKind_88 (by decide) ?_
              refine lv_goto (tgt := 93) hx hb dX0_isOfKind_89 (by decide) ?_
              exact W.zret (v := (1 : Int32)) hx hb hr (by first | rfl | decide | assumption) (fun t ht hW => ⟨_, rfl, (by unfold n_isOfKind; rw [if_pos c_1, if_neg c_2, if_neg c_3, if_neg c_4, if_pos c_6, if_neg c_7]), ht⟩) (fun _ h => by cases h) dX0_isOfKind_93
          · skip
            refine lv_tableOut (tgt := 94) hx hb dX0_isOfKind_23 (by have e0 := lv_neT c_2 (a := 0) (by decide); have e1 := lv_neT c_3 (a := 1) (by decide); have e2 := lv_neT c_4 (a := 2) (by decide); have e3 := lv_neT c_6 (a := 3) (by decide); omega) (by decide) ?_
            refine lv_iconst (v := 1) hx hb dX0_isOfKind_94 (by decide) ?_
            exact W.zret (v := (1 : Int32)) hx hb hr (by first | rfl | decide | assumption) (fun t ht hW => ⟨_, rfl, (by unfold n_isOfKind; rw [if_pos c_1, if_neg c_2, if_neg c_3, if_neg c_4, if_neg c_6]), ht⟩) (fun _ h => by cases h) dX0_isOfKind_95
  · skip
    have c_1 : ¬ (p1 < (-2147483648 : Int64)) := fun h => c_1 ((lg_cmp_lt _ _).mpr h)
    refine lv_lload_n hx hb dX0_isOfKind_8 rfl (lv_at hl 1 rfl) ?_
    refine lv_ldc2 hx hb hown k_3 dX0_isOfKind_9 ?_
    refine W.lcmp hx hb dX0_isOfKind_12 ?_
    refine lv_if_gt (tgt := 20) hx hb dX0_isOfKind_13 (by decide) (fun c_8 => ?_) (fun c_8 => ?_)
    · skip
      have c_8 : (2147483647 : Int64) < p1 := (lg_cmp_gt _ _).mp c_8
      refine lv_iconst (v := 0) hx hb dX0_isOfKind_20 (by decide) ?_
      refine lv_istore_n (lv' := [(3, .int (0 : Int32)), (0, .int p0), (1, .long p1)]) hx hb dX0_isOfKind_21 rfl hl (by decide) rfl (fun ls hl => ?_)
      refine lv_iload_n hx hb dX0_isOfKind_22 rfl (lv_at hl 1 rfl) ?_
      by_cases c_9 : p0 = 0
      · skip
        refine lv_tableIn (off := 29) (tgt := 52) hx hb dX0_isOfKind_23 (by rw [c_9]; decide) (by rw [c_9]; decide) (by rw [c_9]; rfl) (by decide) ?_
        refine lv_iload_n hx hb dX0_isOfKind_52 rfl (lv_at hl 0 rfl) ?_
        exact W.zret (v := (0 : Int32)) hx hb hr (by first | rfl | decide | assumption) (fun t ht hW => ⟨_, rfl, (by unfold n_isOfKind; rw [if_neg c_1, if_pos c_8, if_pos c_9]), ht⟩) (fun _ h => by cases h) dX0_isOfKind_53
      · skip
        by_cases c_10 : p0 = 1
        · skip
          refine lv_tableIn (off := 71) (tgt := 94) hx hb dX0_isOfKind_23 (by rw [c_10]; decide) (by rw [c_10]; decide) (by rw [c_10]; rfl) (by decide) ?_
          refine lv_iconst (v := 1) hx hb dX0_isOfKind_94 (by decide) ?_
          exact W.zret (v := (1 : Int32)) hx hb hr (by first | rfl | decide | assumption) (fun t ht hW => ⟨_, rfl, (by unfold n_isOfKind; rw [if_neg c_1, if_pos c_8, if_neg c_9, if_pos c_10]), ht⟩) (fun _ h => by cases h) dX0_isOfKind_95
        · skip
          by_cases c_11 : p0 = 2
          · skip
            refine lv_tableIn (off := 31) (tgt := 54) hx hb dX0_isOfKind_23 (by rw [c_11]; decide) (by rw [c_11]; decide) (by rw [c_11]; rfl) (by decide) ?_
            refine lv_iload_n hx hb dX0_isOfKind_54 rfl (lv_at hl 0 rfl) ?_
            refine lv_if_eq (tgt := 74) hx hb dX0_isOfKind_55 (by decide) (fun c_12 => ?_) (fun c_12 => ?_)
            · skip
              refine lv_iconst (v := 0) hx hb dX0_isOfKind_74 (by decide) ?_
              exact W.zret (v := (0 : Int32)) hx hb hr (by first | rfl | decide | assumption) (fun t ht hW => ⟨_, rfl, (by unfold n_isOfKind; rw [if_neg c_1, if_pos c_8, if_neg c_9, if_neg c_10, if_pos c_11]), ht⟩) (fun _ h => by cases h) dX0_isOfKind_75
            · skip
              exact absurd (by decide) c_12
          · skip
            by_cases c_13 : p0 = 3
            · skip
              refine lv_tableIn (off := 53) (tgt := 76) hx hb dX0_isOfKind_23 (by rw [c_13]; decide) (by rw [c_13]; decide) (by rw [c_13]; rfl) (by decide) ?_
              refine lv_lload_n hx hb dX0_isOfKind_76 rfl (lv_at hl 2 rfl) ?_
              refine lv_ldc2 hx hb hown k_1 dX0_isOfKind_77 ?_
              refine lv_land hx hb dX0_isOfKind_80 ?_
              refine lv_ldc2 hx hb hown k_2 dX0_isOfKind_81 ?_
              refine W.lcmp hx hb dX0_isOfKind_84 ?_
              refine lv_if_gt (tgt := 92) hx hb dX0_isOfKind_85 (by decide) (fun c_14 => ?_) (fun c_14 => ?_)
              · skip
                have c_14 : (9218868437227405312 : Int64) < (p1 &&& (9223372036854775807 : Int64)) := (lg_cmp_gt _ _).mp c_14
                refine lv_iconst (v := 0) hx hb dX0_isOfKind_92 (by decide) ?_
                exact W.zret (v := (0 : Int32)) hx hb hr (by first | rfl | decide | assumption) (fun t ht hW => ⟨_, rfl, (by unfold n_isOfKind; rw [if_neg c_1, if_pos c_8, if_neg c_9, if_neg c_10, if_neg c_11, if_pos c_13, if_pos c_14]), ht⟩) (fun _ h => by cases h) dX0_isOfKind_93
              · skip
                have c_14 : ¬ ((9218868437227405312 : Int64) < (p1 &&& (9223372036854775807 : Int64))) := fun h => c_14 ((lg_cmp_gt _ _).mpr h)
                refine lv_iconst (v := 1) hx hb dX0_isOfKind_88 (by decide) ?_
                refine lv_goto (tgt := 93) hx hb dX0_isOfKind_89 (by decide) ?_
                exact W.zret (v := (1 : Int32)) hx hb hr (by first | rfl | decide | assumption) (fun t ht hW => ⟨_, rfl, (by unfold n_isOfKind; rw [if_neg c_1, if_pos c_8, if_neg c_9, if_neg c_10, if_neg c_11, if_pos c_13, if_neg c_14]), ht⟩) (fun _ h => by cases h) dX0_isOfKind_93
            · skip
              refine lv_tableOut (tgt := 94) hx hb dX0_isOfKind_23 (by have e0 := lv_neT c_9 (a := 0) (by decide); have e1 := lv_neT c_10 (a := 1) (by decide); have e2 := lv_neT c_11 (a := 2) (by decide); have e3 := lv_neT c_13 (a := 3) (by decide); omega) (by decide) ?_
              refine lv_iconst (v := 1) hx hb dX0_isOfKind_94 (by decide) ?_
              exact W.zret (v := (1 : Int32)) hx hb hr (by first | rfl | decide | assumption) (fun t ht hW => ⟨_, rfl, (by unfold n_isOfKind; rw [if_neg c_1, if_pos c_8, if_neg c_9, if_neg c_10, if_neg c_11, if_neg c_13]), ht⟩) (fun _ h => by cases h) dX0_isOfKind_95
    · skip
      have c_8 : ¬ ((2147483647 : Int64) < p1) := fun h => c_8 ((lg_cmp_gt _ _).mpr h)
      refine lv_iconst (v := 1) hx hb dX0_isOfKind_16 (by decide) ?_
      refine lv_goto (tgt := 21) hx hb dX0_isOfKind_17 (by decide) ?_
      refine lv_istore_n (lv' := [(3, .int (1 : Int32)), (0, .int p0), (1, .long p1)]) hx hb dX0_isOfKind_21 rfl hl (by decide) rfl (fun ls hl => ?_)
      refine lv_iload_n hx hb dX0_isOfKind_22 rfl (lv_at hl 1 rfl) ?_
      by_cases c_15 : p0 = 0
      · skip
        refine lv_tableIn (off := 29) (tgt := 52) hx hb dX0_isOfKind_23 (by rw [c_15]; decide) (by rw [c_15]; decide) (by rw [c_15]; rfl) (by decide) ?_
        refine lv_iload_n hx hb dX0_isOfKind_52 rfl (lv_at hl 0 rfl) ?_
        exact W.zret (v := (1 : Int32)) hx hb hr (by first | rfl | decide | assumption) (fun t ht hW => ⟨_, rfl, (by unfold n_isOfKind; rw [if_neg c_1, if_neg c_8, if_pos c_15]), ht⟩) (fun _ h => by cases h) dX0_isOfKind_53
      · skip
        by_cases c_16 : p0 = 1
        · skip
          refine lv_tableIn (off := 71) (tgt := 94) hx hb dX0_isOfKind_23 (by rw [c_16]; decide) (by rw [c_16]; decide) (by rw [c_16]; rfl) (by decide) ?_
          refine lv_iconst (v := 1) hx hb dX0_isOfKind_94 (by decide) ?_
          exact W.zret (v := (1 : Int32)) hx hb hr (by first | rfl | decide | assumption) (fun t ht hW => ⟨_, rfl, (by unfold n_isOfKind; rw [if_neg c_1, if_neg c_8, if_neg c_15, if_pos c_16]), ht⟩) (fun _ h => by cases h) dX0_isOfKind_95
        · skip
          by_cases c_17 : p0 = 2
          · skip
            refine lv_tableIn (off := 31) (tgt := 54) hx hb dX0_isOfKind_23 (by rw [c_17]; decide) (by rw [c_17]; decide) (by rw [c_17]; rfl) (by decide) ?_
            refine lv_iload_n hx hb dX0_isOfKind_54 rfl (lv_at hl 0 rfl) ?_
            refine lv_if_eq (tgt := 74) hx hb dX0_isOfKind_55 (by decide) (fun c_18 => ?_) (fun c_18 => ?_)
            · skip
              exact absurd c_18 (by decide)
            · skip
              refine lv_lload_n hx hb dX0_isOfKind_58 rfl (lv_at hl 2 rfl) ?_
              refine lv_ldc2 hx hb hown k_3 dX0_isOfKind_59 ?_
              refine lv_land hx hb dX0_isOfKind_62 ?_
              refine lv_ldc2 hx hb hown k_4 dX0_isOfKind_63 ?_
              refine W.lcmp hx hb dX0_isOfKind_66 ?_
              refine lv_if_gt (tgt := 74) hx hb dX0_isOfKind_67 (by decide) (fun c_19 => ?_) (fun c_19 => ?_)
              · skip
                have c_19 : (2139095040 : Int64) < (p1 &&& (2147483647 : Int64)) := (lg_cmp_gt _ _).mp c_19
                refine lv_iconst (v := 0) hx hb dX0_isOfKind_74 (by decide) ?_
                exact W.zret (v := (0 : Int32)) hx hb hr (by first | rfl | decide | assumption) (fun t ht hW => ⟨_, rfl, (by unfold n_isOfKind; rw [if_neg c_1, if_neg c_8, if_neg c_15, if_neg c_16, if_pos c_17, if_pos c_19]), ht⟩) (fun _ h => by cases h) dX0_isOfKind_75
              · skip
                have c_19 : ¬ ((2139095040 : Int64) < (p1 &&& (2147483647 : Int64))) := fun h => c_19 ((lg_cmp_gt _ _).mpr h)
                refine lv_iconst (v := 1) hx hb dX0_isOfKind_70 (by decide) ?_
                refine lv_goto (tgt := 75) hx hb dX0_isOfKind_71 (by decide) ?_
                exact W.zret (v := (1 : Int32)) hx hb hr (by first | rfl | decide | assumption) (fun t ht hW => ⟨_, rfl, (by unfold n_isOfKind; rw [if_neg c_1, if_neg c_8, if_neg c_15, if_neg c_16, if_pos c_17, if_neg c_19]), ht⟩) (fun _ h => by cases h) dX0_isOfKind_75
          · skip
            by_cases c_20 : p0 = 3
            · skip
              refine lv_tableIn (off := 53) (tgt := 76) hx hb dX0_isOfKind_23 (by rw [c_20]; decide) (by rw [c_20]; decide) (by rw [c_20]; rfl) (by decide) ?_
              refine lv_lload_n hx hb dX0_isOfKind_76 rfl (lv_at hl 2 rfl) ?_
              refine lv_ldc2 hx hb hown k_1 dX0_isOfKind_77 ?_
              refine lv_land hx hb dX0_isOfKind_80 ?_
              refine lv_ldc2 hx hb hown k_2 dX0_isOfKind_81 ?_
              refine W.lcmp hx hb dX0_isOfKind_84 ?_
              refine lv_if_gt (tgt := 92) hx hb dX0_isOfKind_85 (by decide) (fun c_21 => ?_) (fun c_21 => ?_)
              · skip
                have c_21 : (9218868437227405312 : Int64) < (p1 &&& (9223372036854775807 : Int64)) := (lg_cmp_gt _ _).mp c_21
                refine lv_iconst (v := 0) hx hb dX0_isOfKind_92 (by decide) ?_
                exact W.zret (v := (0 : Int32)) hx hb hr (by first | rfl | decide | assumption) (fun t ht hW => ⟨_, rfl, (by unfold n_isOfKind; rw [if_neg c_1, if_neg c_8, if_neg c_15, if_neg c_16, if_neg c_17, if_pos c_20, if_pos c_21]), ht⟩) (fun _ h => by cases h) dX0_isOfKind_93
              · skip
                have c_21 : ¬ ((9218868437227405312 : Int64) < (p1 &&& (9223372036854775807 : Int64))) := fun h => c_21 ((lg_cmp_gt _ _).mpr h)
                refine lv_iconst (v := 1) hx hb dX0_isOfKind_88 (by decide) ?_
                refine lv_goto (tgt := 93) hx hb dX0_isOfKind_89 (by decide) ?_
                exact W.zret (v := (1 : Int32)) hx hb hr (by first | rfl | decide | assumption) (fun t ht hW => ⟨_, rfl, (by unfold n_isOfKind; rw [if_neg c_1, if_neg c_8, if_neg c_15, if_neg c_16, if_neg c_17, if_pos c_20, if_neg c_21]), ht⟩) (fun _ h => by cases h) dX0_isOfKind_93
            · skip
              refine lv_tableOut (tgt := 94) hx hb dX0_isOfKind_23 (by have e0 := lv_neT c_15 (a := 0) (by decide); have e1 := lv_neT c_16 (a := 1) (by decide); have e2 := lv_neT c_17 (a := 2) (by decide); have e3 := lv_neT c_20 (a := 3) (by decide); omega) (by decide) ?_
              refine lv_iconst (v := 1) hx hb dX0_isOfKind_94 (by decide) ?_
              exact W.zret (v := (1 : Int32)) hx hb hr (by first | rfl | decide | assumption) (fun t ht hW => ⟨_, rfl, (by unfold n_isOfKind; rw [if_neg c_1, if_neg c_8, if_neg c_15, if_neg c_16, if_neg c_17, if_neg c_20]), ht⟩) (fun _ h => by cases h) dX0_isOfKind_95
def n_sizeBits (p0 : Int32) : Int64 :=
  if p0 = (2 : Int32) then (2147483647 : Int64)
  else (9223372036854775807 : Int64)
set_option maxHeartbeats 4000000 in
set_option maxRecDepth 100000 in
theorem c_X0_sizeBits (l : Launch) (p0 : Int32) : Met l yX0_sizeBits wsX0_sizeBits ({ frames := 0, cells := 0, slots := 0, locals := 0 }) (va_Pc [.int p0] (fun _ => True)) (vp_Sl (fun r => r = n_sizeBits p0)) 0 0 (fun _ => False) := by
  refine Met.ofW (cc := cX0_sizeBits) (maxL := 1) (ret := (some .long)) (by decide) rfl ?_
  intro p e s m args below meth c s₁ B hml hv
  obtain ⟨rfl, -⟩ := hv
  have hx := B.exec
  have hb := B.bytes
  have hr := B.returns
  have hts := atoms_spec (ws := wsX0_sizeBits) B.pre
  have hown : s.vm.findClass RX0 = some m.cls := findClass_of_methodNamed B.named
  have hlocks := B.notSynchronized
  have k_0 := hts (.constantLong RX0 19 (9223372036854775807)) (by decide +kernel)
  have k_1 := hts (.constantLong RX0 13 (2147483647)) (by decide +kernel)
  have hl := lv_entry ([.int p0]) (n := 1) (Nat.le_of_ble_eq_true rfl)
  rw [lg_entry_eq]
  generalize (lg_sl ([.int p0]) ++ List.replicate (1 - (lg_sl ([.int p0])).length) Slot.unset).toArray = ls at hl ⊢
  have hl : lv_has ls 1 [(0, .int p0)] := hl
  refine lv_iload_n hx hb dX0_sizeBits_0 rfl (lv_at hl 0 rfl) ?_
  refine lv_iconst (v := 2) hx hb dX0_sizeBits_1 (by decide) ?_
  refine lv_icmp_ne (tgt := 11) hx hb dX0_sizeBits_2 (by decide) (fun c_1 => ?_) (fun c_1 => ?_)
  · skip
    refine lv_ldc2 hx hb hown k_0 dX0_sizeBits_11 ?_
    exact W.lret (v := (9223372036854775807 : Int64)) hx hb hr (fun t ht hW => ⟨_, rfl, (by unfold n_sizeBits; rw [if_neg c_1]), ht⟩) (fun _ h => by cases h) dX0_sizeBits_14
  · skip
    refine lv_ldc2 hx hb hown k_1 dX0_sizeBits_5 ?_
    refine lv_goto (tgt := 14) hx hb dX0_sizeBits_8 (by decide) ?_
    exact W.lret (v := (2147483647 : Int64)) hx hb hr (fun t ht hW => ⟨_, rfl, (by unfold n_sizeBits; rw [if_pos c_1]), ht⟩) (fun _ h => by cases h) dX0_sizeBits_14
def n_rank (p0 : Int32) (p1 : Int64) : Int64 :=
  if (n_isReal p0) = 0 then p1
  else if (0 : Int64) ≤ p1 then p1
    else (p1 ^^^ (n_sizeBits p0))
set_option maxHeartbeats 4000000 in
set_option maxRecDepth 100000 in
theorem c_X0_rank (l : Launch) (p0 : Int32) (p1 : Int64) : Met l yX0_rank wsX0_rank ({ frames := 1, cells := 0, slots := 0, locals := 20 }) (va_Pc [.int p0, .long p1] (fun _ => True)) (vp_Sl (fun r => r = n_rank p0 p1)) 0 0 (fun _ => False) := by
  refine Met.ofW (cc := cX0_rank) (maxL := 3) (ret := (some .long)) (by decide) rfl ?_
  intro p e s m args below meth c s₁ B hml hv
  obtain ⟨rfl, -⟩ := hv
  have hx := B.exec
  have hb := B.bytes
  have hr := B.returns
  have hts := atoms_spec (ws := wsX0_rank) B.pre
  have hown : s.vm.findClass RX0 = some m.cls := findClass_of_methodNamed B.named
  have hlocks := B.notSynchronized
  have hl := lv_entry ([.int p0, .long p1]) (n := 3) (Nat.le_of_ble_eq_true rfl)
  rw [lg_entry_eq]
  generalize (lg_sl ([.int p0, .long p1]) ++ List.replicate (3 - (lg_sl ([.int p0, .long p1])).length) Slot.unset).toArray = ls at hl ⊢
  have hl : lv_has ls 3 [(0, .int p0), (1, .long p1)] := hl
  refine lv_iload_n hx hb dX0_rank_0 rfl (lv_at hl 0 rfl) ?_
  refine cs_i (W.runS (As := [.int p0]) (rest := []) ⟨hx, hb, hml, hown, hts⟩ (c_X0_isReal l p0 ) (va_cwS 1 hts gX0_rank_X0_isReal rfl rfl rfl (by decide +kernel) ⟨Nat.le_of_ble_eq_true rfl, Nat.le_of_ble_eq_true rfl⟩) fb_s rfl rfl hl.1 rfl (lv_room (Nat.le_of_ble_eq_true rfl)) dX0_rank_1 ⟨Nat.zero_le _, Nat.zero_le _⟩) ?_
  refine lv_if_eq (tgt := 22) hx hb dX0_rank_4 (by decide) (fun c_1 => ?_) (fun c_1 => ?_)
  · skip
    refine lv_lload_n hx hb dX0_rank_22 rfl (lv_at hl 1 rfl) ?_
    exact W.lret (v := p1) hx hb hr (fun t ht hW => ⟨_, rfl, (by unfold n_rank; rw [if_pos c_1]), ht⟩) (fun _ h => by cases h) dX0_rank_23
  · skip
    refine lv_lload_n hx hb dX0_rank_7 rfl (lv_at hl 1 rfl) ?_
    refine lv_lconst (v := 0) hx hb dX0_rank_8 (by decide) ?_
    refine W.lcmp hx hb dX0_rank_9 ?_
    refine lv_if_ge (tgt := 22) hx hb dX0_rank_10 (by decide) (fun c_2 => ?_) (fun c_2 => ?_)
    · skip
      have c_2 : (0 : Int64) ≤ p1 := (lg_cmp_ge _ _).mp c_2
      refine lv_lload_n hx hb dX0_rank_22 rfl (lv_at hl 1 rfl) ?_
      exact W.lret (v := p1) hx hb hr (fun t ht hW => ⟨_, rfl, (by unfold n_rank; rw [if_neg c_1, if_pos c_2]), ht⟩) (fun _ h => by cases h) dX0_rank_23
    · skip
      have c_2 : ¬ ((0 : Int64) ≤ p1) := fun h => c_2 ((lg_cmp_ge _ _).mpr h)
      refine lv_lload_n hx hb dX0_rank_13 rfl (lv_at hl 1 rfl) ?_
      refine lv_iload_n hx hb dX0_rank_14 rfl (lv_at hl 0 rfl) ?_
      refine cs_l (W.runS (As := [.int p0]) (rest := [.long p1]) ⟨hx, hb, hml, hown, hts⟩ (c_X0_sizeBits l p0 ) (va_cwS 1 hts gX0_rank_X0_sizeBits rfl rfl rfl (by decide +kernel) ⟨Nat.le_of_ble_eq_true rfl, Nat.le_of_ble_eq_true rfl⟩) fb_s rfl rfl hl.1 rfl (lv_room (Nat.le_of_ble_eq_true rfl)) dX0_rank_15 ⟨Nat.zero_le _, Nat.zero_le _⟩) ?_
      refine lv_lxor hx hb dX0_rank_18 ?_
      refine lv_goto (tgt := 23) hx hb dX0_rank_19 (by decide) ?_
      exact W.lret (v := (p1 ^^^ (n_sizeBits p0))) hx hb hr (fun t ht hW => ⟨_, rfl, (by unfold n_rank; rw [if_neg c_1, if_neg c_2]), ht⟩) (fun _ h => by cases h) dX0_rank_23
def n_compared (p0 : Int32) (p1 : Int64) (p2 : Int64) : Int32 :=
  if (n_rank p0 p1) ≤ (n_rank p0 p2) then (if (n_rank p0 p2) ≤ (n_rank p0 p1) then (0 : Int32)
    else (-1 : Int32))
  else (1 : Int32)
set_option maxHeartbeats 4000000 in
set_option maxRecDepth 100000 in
theorem c_X0_compared (l : Launch) (p0 : Int32) (p1 : Int64) (p2 : Int64) : Met l yX0_compared wsX0_compared ({ frames := 2, cells := 0, slots := 0, locals := 42 }) (va_Pc [.int p0, .long p1, .long p2] (fun _ => True)) (vp_Si (fun r => r = n_compared p0 p1 p2)) 0 0 (fun _ => False) := by
  refine Met.ofW (cc := cX0_compared) (maxL := 9) (ret := (some .int)) (by decide) rfl ?_
  intro p e s m args below meth c s₁ B hml hv
  obtain ⟨rfl, -⟩ := hv
  have hx := B.exec
  have hb := B.bytes
  have hr := B.returns
  have hts := atoms_spec (ws := wsX0_compared) B.pre
  have hown : s.vm.findClass RX0 = some m.cls := findClass_of_methodNamed B.named
  have hlocks := B.notSynchronized
  have hl := lv_entry ([.int p0, .long p1, .long p2]) (n := 9) (Nat.le_of_ble_eq_true rfl)
  rw [lg_entry_eq]
  generalize (lg_sl ([.int p0, .long p1, .long p2]) ++ List.replicate (9 - (lg_sl ([.int p0, .long p1, .long p2])).length) Slot.unset).toArray = ls at hl ⊢
  have hl : lv_has ls 9 [(0, .int p0), (1, .long p1), (3, .long p2)] := hl
  refine lv_iload_n hx hb dX0_compared_0 rfl (lv_at hl 0 rfl) ?_
  refine lv_lload_n hx hb dX0_compared_1 rfl (lv_at hl 1 rfl) ?_
  refine cs_l (W.runS (As := [.int p0, .long p1]) (rest := []) ⟨hx, hb, hml, hown, hts⟩ (c_X0_rank l p0 p1 ) (va_cwS 2 hts gX0_compared_X0_rank rfl rfl rfl (by decide +kernel) ⟨Nat.le_of_ble_eq_true rfl, Nat.le_of_ble_eq_true rfl⟩) fb_s rfl rfl hl.1 rfl (lv_room (Nat.le_of_ble_eq_true rfl)) dX0_compared_2 ⟨Nat.zero_le _, Nat.zero_le _⟩) ?_
  refine lv_lstore (lv' := [(5, .long (n_rank p0 p1)), (0, .int p0), (1, .long p1), (3, .long p2)]) hx hb dX0_compared_5 hl (by decide) rfl (fun ls hl => ?_)
  refine lv_iload_n hx hb dX0_compared_7 rfl (lv_at hl 1 rfl) ?_
  refine lv_lload_n hx hb dX0_compared_8 rfl (lv_at hl 3 rfl) ?_
  refine cs_l (W.runS (As := [.int p0, .long p2]) (rest := []) ⟨hx, hb, hml, hown, hts⟩ (c_X0_rank l p0 p2 ) (va_cwS 2 hts gX0_compared_X0_rank rfl rfl rfl (by decide +kernel) ⟨Nat.le_of_ble_eq_true rfl, Nat.le_of_ble_eq_true rfl⟩) fb_s rfl rfl hl.1 rfl (lv_room (Nat.le_of_ble_eq_true rfl)) dX0_compared_9 ⟨Nat.zero_le _, Nat.zero_le _⟩) ?_
  refine lv_lstore (lv' := [(7, .long (n_rank p0 p2)), (5, .long (n_rank p0 p1)), (0, .int p0), (1, .long p1), (3, .long p2)]) hx hb dX0_compared_12 hl (by decide) rfl (fun ls hl => ?_)
  refine lv_lload hx hb dX0_compared_14 (lv_at hl 1 rfl) ?_
  refine lv_lload hx hb dX0_compared_16 (lv_at hl 0 rfl) ?_
  refine W.lcmp hx hb dX0_compared_18 ?_
  refine lv_if_le (tgt := 26) hx hb dX0_compared_19 (by decide) (fun c_1 => ?_) (fun c_1 => ?_)
  · skip
    have c_1 : (n_rank p0 p1) ≤ (n_rank p0 p2) := (lg_cmp_le _ _).mp c_1
    refine lv_lload hx hb dX0_compared_26 (lv_at hl 1 rfl) ?_
    refine lv_lload hx hb dX0_compared_28 (lv_at hl 0 rfl) ?_
    refine W.lcmp hx hb dX0_compared_30 ?_
    refine lv_if_ge (tgt := 38) hx hb dX0_compared_31 (by decide) (fun c_2 => ?_) (fun c_2 => ?_)
    · skip
      have c_2 : (n_rank p0 p2) ≤ (n_rank p0 p1) := (lg_cmp_ge _ _).mp c_2
      refine lv_iconst (v := 0) hx hb dX0_compared_38 (by decide) ?_
      exact W.iret (v := (0 : Int32)) hx hb hr (fun t ht hW => ⟨_, rfl, (by unfold n_compared; rw [if_pos c_1, if_pos c_2]), ht⟩) (fun _ h => by cases h) dX0_compared_39
    · skip
      have c_2 : ¬ ((n_rank p0 p2) ≤ (n_rank p0 p1)) := fun h => c_2 ((lg_cmp_ge _ _).mpr h)
      refine lv_iconst (v := (-1)) hx hb dX0_compared_34 (by decide) ?_
      refine lv_goto (tgt := 39) hx hb dX0_compared_35 (by decide) ?_
      exact W.iret (v := (-1 : Int32)) hx hb hr (fun t ht hW => ⟨_, rfl, (by unfold n_compared; rw [if_pos c_1, if_neg c_2]), ht⟩) (fun _ h => by cases h) dX0_compared_39
  · skip
    have c_1 : ¬ ((n_rank p0 p1) ≤ (n_rank p0 p2)) := fun h => c_1 ((lg_cmp_le _ _).mpr h)
    refine lv_iconst (v := 1) hx hb dX0_compared_22 (by decide) ?_
    refine lv_goto (tgt := 39) hx hb dX0_compared_23 (by decide) ?_
    exact W.iret (v := (1 : Int32)) hx hb hr (fun t ht hW => ⟨_, rfl, (by unfold n_compared; rw [if_neg c_1]), ht⟩) (fun _ h => by cases h) dX0_compared_39
def n_greater (p0 : Int32) (p1 : Int64) (p2 : Int64) : Int64 :=
  if (n_compared p0 p1 p2) < 0 then p2
  else p1
set_option maxHeartbeats 4000000 in
set_option maxRecDepth 100000 in
theorem c_X0_greater (l : Launch) (p0 : Int32) (p1 : Int64) (p2 : Int64) : Met l yX0_greater wsX0_greater ({ frames := 3, cells := 0, slots := 0, locals := 70 }) (va_Pc [.int p0, .long p1, .long p2] (fun _ => True)) (vp_Sl (fun r => r = n_greater p0 p1 p2)) 0 0 (fun _ => False) := by
  refine Met.ofW (cc := cX0_greater) (maxL := 5) (ret := (some .long)) (by decide) rfl ?_
  intro p e s m args below meth c s₁ B hml hv
  obtain ⟨rfl, -⟩ := hv
  have hx := B.exec
  have hb := B.bytes
  have hr := B.returns
  have hts := atoms_spec (ws := wsX0_greater) B.pre
  have hown : s.vm.findClass RX0 = some m.cls := findClass_of_methodNamed B.named
  have hlocks := B.notSynchronized
  have hl := lv_entry ([.int p0, .long p1, .long p2]) (n := 5) (Nat.le_of_ble_eq_true rfl)
  rw [lg_entry_eq]
  generalize (lg_sl ([.int p0, .long p1, .long p2]) ++ List.replicate (5 - (lg_sl ([.int p0, .long p1, .long p2])).length) Slot.unset).toArray = ls at hl ⊢
  have hl : lv_has ls 5 [(0, .int p0), (1, .long p1), (3, .long p2)] := hl
  refine lv_iload_n hx hb dX0_greater_0 rfl (lv_at hl 0 rfl) ?_
  refine lv_lload_n hx hb dX0_greater_1 rfl (lv_at hl 1 rfl) ?_
  refine lv_lload_n hx hb dX0_greater_2 rfl (lv_at hl 2 rfl) ?_
  refine cs_i (W.runS (As := [.int p0, .long p1, .long p2]) (rest := []) ⟨hx, hb, hml, hown, hts⟩ (c_X0_compared l p0 p1 p2 ) (va_cwS 3 hts gX0_greater_X0_compared rfl rfl rfl (by decide +kernel) ⟨Nat.le_of_ble_eq_true rfl, Nat.le_of_ble_eq_true rfl⟩) fb_s rfl rfl hl.1 rfl (lv_room (Nat.le_of_ble_eq_true rfl)) dX0_greater_3 ⟨Nat.zero_le _, Nat.zero_le _⟩) ?_
  refine lv_if_lt (tgt := 13) hx hb dX0_greater_6 (by decide) (fun c_1 => ?_) (fun c_1 => ?_)
  · skip
    refine lv_lload_n hx hb dX0_greater_13 rfl (lv_at hl 2 rfl) ?_
    exact W.lret (v := p2) hx hb hr (fun t ht hW => ⟨_, rfl, (by unfold n_greater; rw [if_pos c_1]), ht⟩) (fun _ h => by cases h) dX0_greater_14
  · skip
    refine lv_lload_n hx hb dX0_greater_9 rfl (lv_at hl 1 rfl) ?_
    refine lv_goto (tgt := 14) hx hb dX0_greater_10 (by decide) ?_
    exact W.lret (v := p1) hx hb hr (fun t ht hW => ⟨_, rfl, (by unfold n_greater; rw [if_neg c_1]), ht⟩) (fun _ h => by cases h) dX0_greater_14
def n_less (p0 : Int32) (p1 : Int64) (p2 : Int64) : Int64 :=
  if 0 < (n_compared p0 p1 p2) then p2
  else p1
set_option maxHeartbeats 4000000 in
set_option maxRecDepth 100000 in
theorem c_X0_less (l : Launch) (p0 : Int32) (p1 : Int64) (p2 : Int64) : Met l yX0_less wsX0_less ({ frames := 3, cells := 0, slots := 0, locals := 70 }) (va_Pc [.int p0, .long p1, .long p2] (fun _ => True)) (vp_Sl (fun r => r = n_less p0 p1 p2)) 0 0 (fun _ => False) := by
  refine Met.ofW (cc := cX0_less) (maxL := 5) (ret := (some .long)) (by decide) rfl ?_
  intro p e s m args below meth c s₁ B hml hv
  obtain ⟨rfl, -⟩ := hv
  have hx := B.exec
  have hb := B.bytes
  have hr := B.returns
  have hts := atoms_spec (ws := wsX0_less) B.pre
  have hown : s.vm.findClass RX0 = some m.cls := findClass_of_methodNamed B.named
  have hlocks := B.notSynchronized
  have hl := lv_entry ([.int p0, .long p1, .long p2]) (n := 5) (Nat.le_of_ble_eq_true rfl)
  rw [lg_entry_eq]
  generalize (lg_sl ([.int p0, .long p1, .long p2]) ++ List.replicate (5 - (lg_sl ([.int p0, .long p1, .long p2])).length) Slot.unset).toArray = ls at hl ⊢
  have hl : lv_has ls 5 [(0, .int p0), (1, .long p1), (3, .long p2)] := hl
  refine lv_iload_n hx hb dX0_less_0 rfl (lv_at hl 0 rfl) ?_
  refine lv_lload_n hx hb dX0_less_1 rfl (lv_at hl 1 rfl) ?_
  refine lv_lload_n hx hb dX0_less_2 rfl (lv_at hl 2 rfl) ?_
  refine cs_i (W.runS (As := [.int p0, .long p1, .long p2]) (rest := []) ⟨hx, hb, hml, hown, hts⟩ (c_X0_compared l p0 p1 p2 ) (va_cwS 3 hts gX0_less_X0_compared rfl rfl rfl (by decide +kernel) ⟨Nat.le_of_ble_eq_true rfl, Nat.le_of_ble_eq_true rfl⟩) fb_s rfl rfl hl.1 rfl (lv_room (Nat.le_of_ble_eq_true rfl)) dX0_less_3 ⟨Nat.zero_le _, Nat.zero_le _⟩) ?_
  refine lv_if_gt (tgt := 13) hx hb dX0_less_6 (by decide) (fun c_1 => ?_) (fun c_1 => ?_)
  · skip
    refine lv_lload_n hx hb dX0_less_13 rfl (lv_at hl 2 rfl) ?_
    exact W.lret (v := p2) hx hb hr (fun t ht hW => ⟨_, rfl, (by unfold n_less; rw [if_pos c_1]), ht⟩) (fun _ h => by cases h) dX0_less_14
  · skip
    refine lv_lload_n hx hb dX0_less_9 rfl (lv_at hl 1 rfl) ?_
    refine lv_goto (tgt := 14) hx hb dX0_less_10 (by decide) ?_
    exact W.lret (v := p1) hx hb hr (fun t ht hW => ⟨_, rfl, (by unfold n_less; rw [if_neg c_1]), ht⟩) (fun _ h => by cases h) dX0_less_14
def n_fitted (p0 : Int32) (p1 : Int64) (p2 : Int64) (p3 : Int64) : Int64 :=
  (n_greater p0 p1 (n_less p0 p2 p3))
set_option maxHeartbeats 4000000 in
set_option maxRecDepth 100000 in
theorem c_X0_fitted (l : Launch) (p0 : Int32) (p1 : Int64) (p2 : Int64) (p3 : Int64) : Met l yX0_fitted wsX0_fitted ({ frames := 4, cells := 0, slots := 0, locals := 94 }) (va_Pc [.int p0, .long p1, .long p2, .long p3] (fun _ => True)) (vp_Sl (fun r => r = n_fitted p0 p1 p2 p3)) 0 0 (fun _ => False) := by
  refine Met.ofW (cc := cX0_fitted) (maxL := 7) (ret := (some .long)) (by decide) rfl ?_
  intro p e s m args below meth c s₁ B hml hv
  obtain ⟨rfl, -⟩ := hv
  have hx := B.exec
  have hb := B.bytes
  have hr := B.returns
  have hts := atoms_spec (ws := wsX0_fitted) B.pre
  have hown : s.vm.findClass RX0 = some m.cls := findClass_of_methodNamed B.named
  have hlocks := B.notSynchronized
  have hl := lv_entry ([.int p0, .long p1, .long p2, .long p3]) (n := 7) (Nat.le_of_ble_eq_true rfl)
  rw [lg_entry_eq]
  generalize (lg_sl ([.int p0, .long p1, .long p2, .long p3]) ++ List.replicate (7 - (lg_sl ([.int p0, .long p1, .long p2, .long p3])).length) Slot.unset).toArray = ls at hl ⊢
  have hl : lv_has ls 7 [(0, .int p0), (1, .long p1), (3, .long p2), (5, .long p3)] := hl
  refine lv_iload_n hx hb dX0_fitted_0 rfl (lv_at hl 0 rfl) ?_
  refine lv_lload_n hx hb dX0_fitted_1 rfl (lv_at hl 1 rfl) ?_
  refine lv_iload_n hx hb dX0_fitted_2 rfl (lv_at hl 0 rfl) ?_
  refine lv_lload_n hx hb dX0_fitted_3 rfl (lv_at hl 2 rfl) ?_
  refine lv_lload hx hb dX0_fitted_4 (lv_at hl 3 rfl) ?_
  refine cs_l (W.runS (As := [.int p0, .long p2, .long p3]) (rest := [.long p1, .int p0]) ⟨hx, hb, hml, hown, hts⟩ (c_X0_less l p0 p2 p3 ) (va_cwS 3 hts gX0_fitted_X0_less rfl rfl rfl (by decide +kernel) ⟨Nat.le_of_ble_eq_true rfl, Nat.le_of_ble_eq_true rfl⟩) fb_s rfl rfl hl.1 rfl (lv_room (Nat.le_of_ble_eq_true rfl)) dX0_fitted_6 ⟨Nat.zero_le _, Nat.zero_le _⟩) ?_
  refine cs_l (W.runS (As := [.int p0, .long p1, .long (n_less p0 p2 p3)]) (rest := []) ⟨hx, hb, hml, hown, hts⟩ (c_X0_greater l p0 p1 (n_less p0 p2 p3) ) (va_cwS 3 hts gX0_fitted_X0_greater rfl rfl rfl (by decide +kernel) ⟨Nat.le_of_ble_eq_true rfl, Nat.le_of_ble_eq_true rfl⟩) fb_s rfl rfl hl.1 rfl (lv_room (Nat.le_of_ble_eq_true rfl)) dX0_fitted_9 ⟨Nat.zero_le _, Nat.zero_le _⟩) ?_
  exact W.lret (v := (n_greater p0 p1 (n_less p0 p2 p3))) hx hb hr (fun t ht hW => ⟨_, rfl, rfl, ht⟩) (fun _ h => by cases h) dX0_fitted_12
def n_sizeOf (p0 : Int32) (p1 : Int64) : Int64 :=
  if p0 = 0 then (if 0 ≤ p1.toInt32 then p1.toInt32 else 0 - p1.toInt32).toInt64
  else if p0 = 1 then (if 0 < p1 then p1 else -p1)
    else (p1 &&& (n_sizeBits p0))
set_option maxHeartbeats 4000000 in
set_option maxRecDepth 100000 in
theorem c_X0_sizeOf (l : Launch) (p0 : Int32) (p1 : Int64) : Met l yX0_sizeOf wsX0_sizeOf ({ frames := 1, cells := 0, slots := 0, locals := 21 }) (va_Pc [.int p0, .long p1] (fun _ => True)) (vp_Sl (fun r => r = n_sizeOf p0 p1)) 0 0 (fun _ => False) := by
  refine Met.ofW (cc := cX0_sizeOf) (maxL := 3) (ret := (some .long)) (by decide) rfl ?_
  intro p e s m args below meth c s₁ B hml hv
  obtain ⟨rfl, -⟩ := hv
  have hx := B.exec
  have hb := B.bytes
  have hr := B.returns
  have hts := atoms_spec (ws := wsX0_sizeOf) B.pre
  have hown : s.vm.findClass RX0 = some m.cls := findClass_of_methodNamed B.named
  have hlocks := B.notSynchronized
  have k_0 := hts (.methodLink RX0 38 Lib.Math.abs.name) (by decide +kernel)
  have k_1 := hts (.static Lib.Math.abs.name) (by decide +kernel)
  have k_2 := hts (.initialized "java/lang/Math") (by decide +kernel)
  have k_3 := hts (.code Lib.Math.abs.name Lib.Math.abs.code 1 (some .int)) (by decide +kernel)
  have k_4 := hts (.methodLink RX0 44 Lib.MathLoose.abs_long.x) (by decide +kernel)
  have k_5 := hts (.static Lib.MathLoose.abs_long.x) (by decide +kernel)
  have k_6 := hts (.code Lib.MathLoose.abs_long.x Lib.MathLoose.abs_long.code 2 (some .long)) (by decide +kernel)
  have hl := lv_entry ([.int p0, .long p1]) (n := 3) (Nat.le_of_ble_eq_true rfl)
  rw [lg_entry_eq]
  generalize (lg_sl ([.int p0, .long p1]) ++ List.replicate (3 - (lg_sl ([.int p0, .long p1])).length) Slot.unset).toArray = ls at hl ⊢
  have hl : lv_has ls 3 [(0, .int p0), (1, .long p1)] := hl
  refine lv_iload_n hx hb dX0_sizeOf_0 rfl (lv_at hl 0 rfl) ?_
  by_cases c_1 : p0 = 0
  · skip
    refine lv_lookup (off := 27) (tgt := 28) hx hb dX0_sizeOf_1 (by decide) (by rw [c_1]; decide) (by decide) ?_
    refine lv_lload_n hx hb dX0_sizeOf_28 rfl (lv_at hl 1 rfl) ?_
    refine lv_l2i hx hb dX0_sizeOf_29 rfl ?_
    refine va_mabs hx hb (by rw [hml, hl.1]) hown k_0 k_1 k_2 k_3 (Nat.le_of_ble_eq_true rfl) (Nat.le_of_ble_eq_true rfl) (Nat.zero_le _) (Nat.zero_le _) dX0_sizeOf_30 ?_
    refine lv_i2l hx hb dX0_sizeOf_33 rfl ?_
    exact W.lret (v := (if 0 ≤ p1.toInt32 then p1.toInt32 else 0 - p1.toInt32).toInt64) hx hb hr (fun t ht hW => ⟨_, rfl, (by unfold n_sizeOf; rw [if_pos c_1]), ht⟩) (fun _ h => by cases h) dX0_sizeOf_34
  · skip
    by_cases c_2 : p0 = 1
    · skip
      refine lv_lookup (off := 34) (tgt := 35) hx hb dX0_sizeOf_1 (by decide) (by rw [c_2]; decide) (by decide) ?_
      refine lv_lload_n hx hb dX0_sizeOf_35 rfl (lv_at hl 1 rfl) ?_
      refine va_mabs_long hx hb (by rw [hml, hl.1]) hown k_4 k_5 k_2 k_6 (Nat.le_of_ble_eq_true rfl) (Nat.le_of_ble_eq_true rfl) (Nat.zero_le _) (Nat.zero_le _) dX0_sizeOf_36 ?_
      exact W.lret (v := (if 0 < p1 then p1 else -p1)) hx hb hr (fun t ht hW => ⟨_, rfl, (by unfold n_sizeOf; rw [if_neg c_1, if_pos c_2]), ht⟩) (fun _ h => by cases h) dX0_sizeOf_39
    · skip
      refine lv_lookup (off := 39) (tgt := 40) hx hb dX0_sizeOf_1 (by decide) ((lv_osw c_1 (by decide)).trans ((lv_osw c_2 (by decide)).trans rfl)) (by decide) ?_
      refine lv_lload_n hx hb dX0_sizeOf_40 rfl (lv_at hl 1 rfl) ?_
      refine lv_iload_n hx hb dX0_sizeOf_41 rfl (lv_at hl 0 rfl) ?_
      refine cs_l (W.runS (As := [.int p0]) (rest := [.long p1]) ⟨hx, hb, hml, hown, hts⟩ (c_X0_sizeBits l p0 ) (va_cwS 1 hts gX0_sizeOf_X0_sizeBits rfl rfl rfl (by decide +kernel) ⟨Nat.le_of_ble_eq_true rfl, Nat.le_of_ble_eq_true rfl⟩) fb_s rfl rfl hl.1 rfl (lv_room (Nat.le_of_ble_eq_true rfl)) dX0_sizeOf_42 ⟨Nat.zero_le _, Nat.zero_le _⟩) ?_
      refine lv_land hx hb dX0_sizeOf_45 ?_
      exact W.lret (v := (p1 &&& (n_sizeBits p0))) hx hb hr (fun t ht hW => ⟨_, rfl, (by unfold n_sizeOf; rw [if_neg c_1, if_neg c_2]), ht⟩) (fun _ h => by cases h) dX0_sizeOf_46
def n_signed (p0 : Int32) (p1 : Int64) (p2 : Int64) : Int64 :=
  if (0 : Int64) ≤ p2 then (p1 &&& (n_sizeBits p0))
  else (p1 ||| ((n_sizeBits p0) ^^^ (-1 : Int64)))
set_option maxHeartbeats 4000000 in
set_option maxRecDepth 100000 in
theorem c_X0_signed (l : Launch) (p0 : Int32) (p1 : Int64) (p2 : Int64) : Met l yX0_signed wsX0_signed ({ frames := 1, cells := 0, slots := 0, locals := 20 }) (va_Pc [.int p0, .long p1, .long p2] (fun _ => True)) (vp_Sl (fun r => r = n_signed p0 p1 p2)) 0 0 (fun _ => False) := by
  refine Met.ofW (cc := cX0_signed) (maxL := 7) (ret := (some .long)) (by decide) rfl ?_
  intro p e s m args below meth c s₁ B hml hv
  obtain ⟨rfl, -⟩ := hv
  have hx := B.exec
  have hb := B.bytes
  have hr := B.returns
  have hts := atoms_spec (ws := wsX0_signed) B.pre
  have hown : s.vm.findClass RX0 = some m.cls := findClass_of_methodNamed B.named
  have hlocks := B.notSynchronized
  have k_0 := hts (.constantLong RX0 51 (-1)) (by decide +kernel)
  have hl := lv_entry ([.int p0, .long p1, .long p2]) (n := 7) (Nat.le_of_ble_eq_true rfl)
  rw [lg_entry_eq]
  generalize (lg_sl ([.int p0, .long p1, .long p2]) ++ List.replicate (7 - (lg_sl ([.int p0, .long p1, .long p2])).length) Slot.unset).toArray = ls at hl ⊢
  have hl : lv_has ls 7 [(0, .int p0), (1, .long p1), (3, .long p2)] := hl
  refine lv_iload_n hx hb dX0_signed_0 rfl (lv_at hl 0 rfl) ?_
  refine cs_l (W.runS (As := [.int p0]) (rest := []) ⟨hx, hb, hml, hown, hts⟩ (c_X0_sizeBits l p0 ) (va_cwS 1 hts gX0_signed_X0_sizeBits rfl rfl rfl (by decide +kernel) ⟨Nat.le_of_ble_eq_true rfl, Nat.le_of_ble_eq_true rfl⟩) fb_s rfl rfl hl.1 rfl (lv_room (Nat.le_of_ble_eq_true rfl)) dX0_signed_1 ⟨Nat.zero_le _, Nat.zero_le _⟩) ?_
  refine lv_lstore (lv' := [(5, .long (n_sizeBits p0)), (0, .int p0), (1, .long p1), (3, .long p2)]) hx hb dX0_signed_4 hl (by decide) rfl (fun ls hl => ?_)
  refine lv_lload_n hx hb dX0_signed_6 rfl (lv_at hl 3 rfl) ?_
  refine lv_lconst (v := 0) hx hb dX0_signed_7 (by decide) ?_
  refine W.lcmp hx hb dX0_signed_8 ?_
  refine lv_if_ge (tgt := 23) hx hb dX0_signed_9 (by decide) (fun c_1 => ?_) (fun c_1 => ?_)
  · skip
    have c_1 : (0 : Int64) ≤ p2 := (lg_cmp_ge _ _).mp c_1
    refine lv_lload_n hx hb dX0_signed_23 rfl (lv_at hl 2 rfl) ?_
    refine lv_lload hx hb dX0_signed_24 (lv_at hl 0 rfl) ?_
    refine lv_land hx hb dX0_signed_26 ?_
    exact W.lret (v := (p1 &&& (n_sizeBits p0))) hx hb hr (fun t ht hW => ⟨_, rfl, (by unfold n_signed; rw [if_pos c_1]), ht⟩) (fun _ h => by cases h) dX0_signed_27
  · skip
    have c_1 : ¬ ((0 : Int64) ≤ p2) := fun h => c_1 ((lg_cmp_ge _ _).mpr h)
    refine lv_lload_n hx hb dX0_signed_12 rfl (lv_at hl 2 rfl) ?_
    refine lv_lload hx hb dX0_signed_13 (lv_at hl 0 rfl) ?_
    refine lv_ldc2 hx hb hown k_0 dX0_signed_15 ?_
    refine lv_lxor hx hb dX0_signed_18 ?_
    refine lv_lor hx hb dX0_signed_19 ?_
    refine lv_goto (tgt := 27) hx hb dX0_signed_20 (by decide) ?_
    exact W.lret (v := (p1 ||| ((n_sizeBits p0) ^^^ (-1 : Int64)))) hx hb hr (fun t ht hW => ⟨_, rfl, (by unfold n_signed; rw [if_neg c_1]), ht⟩) (fun _ h => by cases h) dX0_signed_27
def n_placesOf (p0 : Int32) : Int32 :=
  if p0 = (2 : Int32) then (23 : Int32)
  else (52 : Int32)
set_option maxHeartbeats 4000000 in
set_option maxRecDepth 100000 in
theorem c_X0_placesOf (l : Launch) (p0 : Int32) : Met l yX0_placesOf wsX0_placesOf ({ frames := 0, cells := 0, slots := 0, locals := 0 }) (va_Pc [.int p0] (fun _ => True)) (vp_Si (fun r => r = n_placesOf p0)) 0 0 (fun _ => False) := by
  refine Met.ofW (cc := cX0_placesOf) (maxL := 1) (ret := (some .int)) (by decide) rfl ?_
  intro p e s m args below meth c s₁ B hml hv
  obtain ⟨rfl, -⟩ := hv
  have hx := B.exec
  have hb := B.bytes
  have hr := B.returns
  have hts := atoms_spec (ws := wsX0_placesOf) B.pre
  have hown : s.vm.findClass RX0 = some m.cls := findClass_of_methodNamed B.named
  have hlocks := B.notSynchronized
  have hl := lv_entry ([.int p0]) (n := 1) (Nat.le_of_ble_eq_true rfl)
  rw [lg_entry_eq]
  generalize (lg_sl ([.int p0]) ++ List.replicate (1 - (lg_sl ([.int p0])).length) Slot.unset).toArray = ls at hl ⊢
  have hl : lv_has ls 1 [(0, .int p0)] := hl
  refine lv_iload_n hx hb dX0_placesOf_0 rfl (lv_at hl 0 rfl) ?_
  refine lv_iconst (v := 2) hx hb dX0_placesOf_1 (by decide) ?_
  refine lv_icmp_ne (tgt := 10) hx hb dX0_placesOf_2 (by decide) (fun c_1 => ?_) (fun c_1 => ?_)
  · skip
    refine lv_bipush (v := 52) hx hb dX0_placesOf_10 (by decide) ?_
    exact W.iret (v := (52 : Int32)) hx hb hr (fun t ht hW => ⟨_, rfl, (by unfold n_placesOf; rw [if_neg c_1]), ht⟩) (fun _ h => by cases h) dX0_placesOf_12
  · skip
    refine lv_bipush (v := 23) hx hb dX0_placesOf_5 (by decide) ?_
    refine lv_goto (tgt := 12) hx hb dX0_placesOf_7 (by decide) ?_
    exact W.iret (v := (23 : Int32)) hx hb hr (fun t ht hW => ⟨_, rfl, (by unfold n_placesOf; rw [if_pos c_1]), ht⟩) (fun _ h => by cases h) dX0_placesOf_12
def n_oneOf (p0 : Int32) : Int64 :=
  if p0 = (2 : Int32) then ((127 : Int64) <<< ((n_placesOf p0).toInt64 &&& 63))
  else ((1023 : Int64) <<< ((n_placesOf p0).toInt64 &&& 63))
set_option maxHeartbeats 4000000 in
set_option maxRecDepth 100000 in
theorem c_X0_oneOf (l : Launch) (p0 : Int32) : Met l yX0_oneOf wsX0_oneOf ({ frames := 1, cells := 0, slots := 0, locals := 20 }) (va_Pc [.int p0] (fun _ => True)) (vp_Sl (fun r => r = n_oneOf p0)) 0 0 (fun _ => False) := by
  refine Met.ofW (cc := cX0_oneOf) (maxL := 1) (ret := (some .long)) (by decide) rfl ?_
  intro p e s m args below meth c s₁ B hml hv
  obtain ⟨rfl, -⟩ := hv
  have hx := B.exec
  have hb := B.bytes
  have hr := B.returns
  have hts := atoms_spec (ws := wsX0_oneOf) B.pre
  have hown : s.vm.findClass RX0 = some m.cls := findClass_of_methodNamed B.named
  have hlocks := B.notSynchronized
  have k_0 := hts (.constantLong RX0 79 (1023)) (by decide +kernel)
  have k_1 := hts (.constantLong RX0 77 (127)) (by decide +kernel)
  have hl := lv_entry ([.int p0]) (n := 1) (Nat.le_of_ble_eq_true rfl)
  rw [lg_entry_eq]
  generalize (lg_sl ([.int p0]) ++ List.replicate (1 - (lg_sl ([.int p0])).length) Slot.unset).toArray = ls at hl ⊢
  have hl : lv_has ls 1 [(0, .int p0)] := hl
  refine lv_iload_n hx hb dX0_oneOf_0 rfl (lv_at hl 0 rfl) ?_
  refine lv_iconst (v := 2) hx hb dX0_oneOf_1 (by decide) ?_
  refine lv_icmp_ne (tgt := 11) hx hb dX0_oneOf_2 (by decide) (fun c_1 => ?_) (fun c_1 => ?_)
  · skip
    refine lv_ldc2 hx hb hown k_0 dX0_oneOf_11 ?_
    refine lv_iload_n hx hb dX0_oneOf_14 rfl (lv_at hl 0 rfl) ?_
    refine cs_i (W.runS (As := [.int p0]) (rest := [.long (1023 : Int64)]) ⟨hx, hb, hml, hown, hts⟩ (c_X0_placesOf l p0 ) (va_cwS 1 hts gX0_oneOf_X0_placesOf rfl rfl rfl (by decide +kernel) ⟨Nat.le_of_ble_eq_true rfl, Nat.le_of_ble_eq_true rfl⟩) fb_s rfl rfl hl.1 rfl (lv_room (Nat.le_of_ble_eq_true rfl)) dX0_oneOf_15 ⟨Nat.zero_le _, Nat.zero_le _⟩) ?_
    refine lv_lshl hx hb dX0_oneOf_18 rfl ?_
    exact W.lret (v := ((1023 : Int64) <<< ((n_placesOf p0).toInt64 &&& 63))) hx hb hr (fun t ht hW => ⟨_, rfl, (by unfold n_oneOf; rw [if_neg c_1]), ht⟩) (fun _ h => by cases h) dX0_oneOf_19
  · skip
    refine lv_ldc2 hx hb hown k_1 dX0_oneOf_5 ?_
    refine lv_goto (tgt := 14) hx hb dX0_oneOf_8 (by decide) ?_
    refine lv_iload_n hx hb dX0_oneOf_14 rfl (lv_at hl 0 rfl) ?_
    refine cs_i (W.runS (As := [.int p0]) (rest := [.long (127 : Int64)]) ⟨hx, hb, hml, hown, hts⟩ (c_X0_placesOf l p0 ) (va_cwS 1 hts gX0_oneOf_X0_placesOf rfl rfl rfl (by decide +kernel) ⟨Nat.le_of_ble_eq_true rfl, Nat.le_of_ble_eq_true rfl⟩) fb_s rfl rfl hl.1 rfl (lv_room (Nat.le_of_ble_eq_true rfl)) dX0_oneOf_15 ⟨Nat.zero_le _, Nat.zero_le _⟩) ?_
    refine lv_lshl hx hb dX0_oneOf_18 rfl ?_
    exact W.lret (v := ((127 : Int64) <<< ((n_placesOf p0).toInt64 &&& 63))) hx hb hr (fun t ht hW => ⟨_, rfl, (by unfold n_oneOf; rw [if_pos c_1]), ht⟩) (fun _ h => by cases h) dX0_oneOf_19
def n_isAway (p0 : Int64) (p1 : Int32) (p2 : Int32) : Int32 :=
  if p1 = 1 then (if (0 : Int64) ≤ p0 then (0 : Int32)
    else (1 : Int32))
  else if p1 = 2 then (if p0 < (0 : Int64) then (0 : Int32)
      else (1 : Int32))
    else p2
set_option maxHeartbeats 4000000 in
set_option maxRecDepth 100000 in
theorem c_X0_isAway (l : Launch) (p0 : Int64) (p1 : Int32) (p2 : Int32) (hz : narrow .boolean (.int p2) = .int p2) : Met l yX0_isAway wsX0_isAway ({ frames := 0, cells := 0, slots := 0, locals := 0 }) (va_Pc [.long p0, .int p1, .int p2] (fun _ => True)) (vp_Si (fun r => r = n_isAway p0 p1 p2)) 0 0 (fun _ => False) := by
  refine Met.ofW (cc := cX0_isAway) (maxL := 4) (ret := (some .boolean)) (by decide) rfl ?_
  intro p e s m args below meth c s₁ B hml hv
  obtain ⟨rfl, -⟩ := hv
  have hx := B.exec
  have hb := B.bytes
  have hr := B.returns
  have hts := atoms_spec (ws := wsX0_isAway) B.pre
  have hown : s.vm.findClass RX0 = some m.cls := findClass_of_methodNamed B.named
  have hlocks := B.notSynchronized
  have hl := lv_entry ([.long p0, .int p1, .int p2]) (n := 4) (Nat.le_of_ble_eq_true rfl)
  rw [lg_entry_eq]
  generalize (lg_sl ([.long p0, .int p1, .int p2]) ++ List.replicate (4 - (lg_sl ([.long p0, .int p1, .int p2])).length) Slot.unset).toArray = ls at hl ⊢
  have hl : lv_has ls 4 [(0, .long p0), (2, .int p1), (3, .int p2)] := hl
  refine lv_iload_n hx hb dX0_isAway_0 rfl (lv_at hl 1 rfl) ?_
  by_cases c_1 : p1 = 1
  · skip
    refine lv_lookup (off := 27) (tgt := 28) hx hb dX0_isAway_1 (by decide) (by rw [c_1]; decide) (by decide) ?_
    refine lv_lload_n hx hb dX0_isAway_28 rfl (lv_at hl 0 rfl) ?_
    refine lv_lconst (v := 0) hx hb dX0_isAway_29 (by decide) ?_
    refine W.lcmp hx hb dX0_isAway_30 ?_
    refine lv_if_ge (tgt := 38) hx hb dX0_isAway_31 (by decide) (fun c_2 => ?_) (fun c_2 => ?_)
    · skip
      have c_2 : (0 : Int64) ≤ p0 := (lg_cmp_ge _ _).mp c_2
      refine lv_iconst (v := 0) hx hb dX0_isAway_38 (by decide) ?_
      exact W.zret (v := (0 : Int32)) hx hb hr (by first | rfl | decide | assumption) (fun t ht hW => ⟨_, rfl, (by unfold n_isAway; rw [if_pos c_1, if_pos c_2]), ht⟩) (fun _ h => by cases h) dX0_isAway_39
    · skip
      have c_2 : ¬ ((0 : Int64) ≤ p0) := fun h => c_2 ((lg_cmp_ge _ _).mpr h)
      refine lv_iconst (v := 1) hx hb dX0_isAway_34 (by decide) ?_
      refine lv_goto (tgt := 39) hx hb dX0_isAway_35 (by decide) ?_
      exact W.zret (v := (1 : Int32)) hx hb hr (by first | rfl | decide | assumption) (fun t ht hW => ⟨_, rfl, (by unfold n_isAway; rw [if_pos c_1, if_neg c_2]), ht⟩) (fun _ h => by cases h) dX0_isAway_39
  · skip
    by_cases c_3 : p1 = 2
    · skip
      refine lv_lookup (off := 39) (tgt := 40) hx hb dX0_isAway_1 (by decide) (by rw [c_3]; decide) (by decide) ?_
      refine lv_lload_n hx hb dX0_isAway_40 rfl (lv_at hl 0 rfl) ?_
      refine lv_lconst (v := 0) hx hb dX0_isAway_41 (by decide) ?_
      refine W.lcmp hx hb dX0_isAway_42 ?_
      refine lv_if_lt (tgt := 50) hx hb dX0_isAway_43 (by decide) (fun c_4 => ?_) (fun c_4 => ?_)
      · skip
        have c_4 : p0 < (0 : Int64) := (lg_cmp_lt _ _).mp c_4
        refine lv_iconst (v := 0) hx hb dX0_isAway_50 (by decide) ?_
        exact W.zret (v := (0 : Int32)) hx hb hr (by first | rfl | decide | assumption) (fun t ht hW => ⟨_, rfl, (by unfold n_isAway; rw [if_neg c_1, if_pos c_3, if_pos c_4]), ht⟩) (fun _ h => by cases h) dX0_isAway_51
      · skip
        have c_4 : ¬ (p0 < (0 : Int64)) := fun h => c_4 ((lg_cmp_lt _ _).mpr h)
        refine lv_iconst (v := 1) hx hb dX0_isAway_46 (by decide) ?_
        refine lv_goto (tgt := 51) hx hb dX0_isAway_47 (by decide) ?_
        exact W.zret (v := (1 : Int32)) hx hb hr (by first | rfl | decide | assumption) (fun t ht hW => ⟨_, rfl, (by unfold n_isAway; rw [if_neg c_1, if_pos c_3, if_neg c_4]), ht⟩) (fun _ h => by cases h) dX0_isAway_51
    · skip
      refine lv_lookup (off := 51) (tgt := 52) hx hb dX0_isAway_1 (by decide) ((lv_osw c_1 (by decide)).trans ((lv_osw c_3 (by decide)).trans rfl)) (by decide) ?_
      refine lv_iload_n hx hb dX0_isAway_52 rfl (lv_at hl 2 rfl) ?_
      exact W.zret (v := p2) hx hb hr (by first | rfl | decide | assumption) (fun t ht hW => ⟨_, rfl, (by unfold n_isAway; rw [if_neg c_1, if_neg c_3]), ht⟩) (fun _ h => by cases h) dX0_isAway_53
end
section
def n_wholeSize_10 (p0 : Int32) (p1 : Int64) (p2 : Int32) (y_1 : Int32) (y_2 : Int64) (y_3 : Int64) (y_5 : Int64) (y_7 : Int64) (y_8 : Int64) (y_9 : Int64) (y_11 : Int32) (y_13 : Int64) (y_14 : Int32) : Int64 :=
  if (n_isAway p1 p2 y_14) = 0 then y_8
  else (y_8 + y_7)
def n_wholeSize_9 (p0 : Int32) (p1 : Int64) (p2 : Int32) (y_1 : Int32) (y_2 : Int64) (y_3 : Int64) (y_5 : Int64) (y_7 : Int64) (y_8 : Int64) (y_9 : Int64) (y_11 : Int32) (y_13 : Int64) : Int64 :=
  (n_wholeSize_10 p0 p1 p2 y_1 y_2 y_3 y_5 y_7 y_8 y_9 y_11 y_13 (if y_13 < y_9 then (1 : Int32) else if y_9 = y_13 then (if y_11 = 0 then (0 : Int32) else (1 : Int32)) else (0 : Int32)))
def n_wholeSize_8 (p0 : Int32) (p1 : Int64) (p2 : Int32) (y_1 : Int32) (y_2 : Int64) (y_3 : Int64) (y_5 : Int64) (y_7 : Int64) (y_8 : Int64) (y_9 : Int64) (y_11 : Int32) : Int64 :=
  (n_wholeSize_9 p0 p1 p2 y_1 y_2 y_3 y_5 y_7 y_8 y_9 y_11 (y_7 >>> ((1 : Int32).toInt64 &&& 63)))
def n_wholeSize_7 (p0 : Int32) (p1 : Int64) (p2 : Int32) (y_1 : Int32) (y_2 : Int64) (y_3 : Int64) (y_5 : Int64) (y_7 : Int64) (y_8 : Int64) (y_9 : Int64) : Int64 :=
  if y_9 = (0 : Int64) then y_2
  else (n_wholeSize_8 p0 p1 p2 y_1 y_2 y_3 y_5 y_7 y_8 y_9 (if (y_8 &&& y_7) = (0 : Int64) then (0 : Int32) else (1 : Int32)))
def n_wholeSize_6 (p0 : Int32) (p1 : Int64) (p2 : Int32) (y_1 : Int32) (y_2 : Int64) (y_3 : Int64) (y_5 : Int64) (y_7 : Int64) (y_8 : Int64) : Int64 :=
  (n_wholeSize_7 p0 p1 p2 y_1 y_2 y_3 y_5 y_7 y_8 (y_2 - y_8))
def n_wholeSize_5 (p0 : Int32) (p1 : Int64) (p2 : Int32) (y_1 : Int32) (y_2 : Int64) (y_3 : Int64) (y_5 : Int64) (y_7 : Int64) : Int64 :=
  (n_wholeSize_6 p0 p1 p2 y_1 y_2 y_3 y_5 y_7 (y_2 &&& (-y_7)))
def n_wholeSize_4 (p0 : Int32) (p1 : Int64) (p2 : Int32) (y_1 : Int32) (y_2 : Int64) (y_3 : Int64) (y_5 : Int64) : Int64 :=
  if y_5 < y_1.toInt64 then (n_wholeSize_5 p0 p1 p2 y_1 y_2 y_3 y_5 ((1 : Int64) <<< (((y_1.toInt64 - y_5).toInt32).toInt64 &&& 63)))
  else y_2
def n_wholeSize_12 (p0 : Int32) (p1 : Int64) (p2 : Int32) (y_1 : Int32) (y_2 : Int64) (y_3 : Int64) (y_19 : Int64) (y_20 : Int32) : Int64 :=
  if (n_isAway p1 p2 y_20) = 0 then (0 : Int64)
  else y_3
def n_wholeSize_11 (p0 : Int32) (p1 : Int64) (p2 : Int32) (y_1 : Int32) (y_2 : Int64) (y_3 : Int64) (y_19 : Int64) : Int64 :=
  (n_wholeSize_12 p0 p1 p2 y_1 y_2 y_3 y_19 (if y_2 ≤ y_19 then (0 : Int32) else (1 : Int32)))
def n_wholeSize_3 (p0 : Int32) (p1 : Int64) (p2 : Int32) (y_1 : Int32) (y_2 : Int64) (y_3 : Int64) : Int64 :=
  if y_3 ≤ y_2 then (n_wholeSize_4 p0 p1 p2 y_1 y_2 y_3 ((y_2 - y_3) >>> (y_1.toInt64 &&& 63)))
  else (n_wholeSize_11 p0 p1 p2 y_1 y_2 y_3 (y_3 - ((1 : Int64) <<< (y_1.toInt64 &&& 63))))
def n_wholeSize_2 (p0 : Int32) (p1 : Int64) (p2 : Int32) (y_1 : Int32) (y_2 : Int64) : Int64 :=
  (n_wholeSize_3 p0 p1 p2 y_1 y_2 (n_oneOf p0))
def n_wholeSize_1 (p0 : Int32) (p1 : Int64) (p2 : Int32) (y_1 : Int32) : Int64 :=
  (n_wholeSize_2 p0 p1 p2 y_1 (n_sizeOf p0 p1))
def n_wholeSize (p0 : Int32) (p1 : Int64) (p2 : Int32) : Int64 :=
  (n_wholeSize_1 p0 p1 p2 (n_placesOf p0))
set_option maxHeartbeats 4000000 in
set_option maxRecDepth 100000 in
theorem c_X0_wholeSize (l : Launch) (p0 : Int32) (p1 : Int64) (p2 : Int32) : Met l yX0_wholeSize wsX0_wholeSize ({ frames := 2, cells := 0, slots := 0, locals := 43 }) (va_Pc [.int p0, .long p1, .int p2] (fun _ => True)) (vp_Sl (fun r => r = n_wholeSize p0 p1 p2)) 0 0 (fun _ => False) := by
  refine Met.ofW (cc := cX0_wholeSize) (maxL := 21) (ret := (some .long)) (by decide) rfl ?_
  intro p e s m args below meth c s₁ B hml hv
  obtain ⟨rfl, -⟩ := hv
  have hx := B.exec
  have hb := B.bytes
  have hr := B.returns
  have hts := atoms_spec (ws := wsX0_wholeSize) B.pre
  have hown : s.vm.findClass RX0 = some m.cls := findClass_of_methodNamed B.named
  have hlocks := B.notSynchronized
  have hl := lv_entry ([.int p0, .long p1, .int p2]) (n := 21) (Nat.le_of_ble_eq_true rfl)
  rw [lg_entry_eq]
  generalize (lg_sl ([.int p0, .long p1, .int p2]) ++ List.replicate (21 - (lg_sl ([.int p0, .long p1, .int p2])).length) Slot.unset).toArray = ls at hl ⊢
  have hl : lv_has ls 21 [(0, .int p0), (1, .long p1), (3, .int p2)] := hl
  refine lv_iload_n hx hb dX0_wholeSize_0 rfl (lv_at hl 0 rfl) ?_
  refine cs_i (W.runS (As := [.int p0]) (rest := []) ⟨hx, hb, hml, hown, hts⟩ (c_X0_placesOf l p0 ) (va_cwS 1 hts gX0_wholeSize_X0_placesOf rfl rfl rfl (by decide +kernel) ⟨Nat.le_of_ble_eq_true rfl, Nat.le_of_ble_eq_true rfl⟩) fb_s rfl rfl hl.1 rfl (lv_room (Nat.le_of_ble_eq_true rfl)) dX0_wholeSize_1 ⟨Nat.zero_le _, Nat.zero_le _⟩) ?_
  refine lv_topi (fun y_1 ey_1 => ?_)
  have q_1 : n_wholeSize p0 p1 p2 = n_wholeSize_1 p0 p1 p2 y_1 := by unfold n_wholeSize; rw [ey_1]
  refine lv_istore (lv' := [(4, .int y_1), (0, .int p0), (1, .long p1), (3, .int p2)]) hx hb dX0_wholeSize_4 hl (by decide) rfl (fun ls hl => ?_)
  refine lv_iload_n hx hb dX0_wholeSize_6 rfl (lv_at hl 1 rfl) ?_
  refine lv_lload_n hx hb dX0_wholeSize_7 rfl (lv_at hl 2 rfl) ?_
  refine cs_l (W.runS (As := [.int p0, .long p1]) (rest := []) ⟨hx, hb, hml, hown, hts⟩ (c_X0_sizeOf l p0 p1 ) (va_cwS 2 hts gX0_wholeSize_X0_sizeOf rfl rfl rfl (by decide +kernel) ⟨Nat.le_of_ble_eq_true rfl, Nat.le_of_ble_eq_true rfl⟩) fb_s rfl rfl hl.1 rfl (lv_room (Nat.le_of_ble_eq_true rfl)) dX0_wholeSize_8 ⟨Nat.zero_le _, Nat.zero_le _⟩) ?_
  refine lv_topl (fun y_2 ey_2 => ?_)
  have q_2 : n_wholeSize p0 p1 p2 = n_wholeSize_2 p0 p1 p2 y_1 y_2 := q_1.trans (by unfold n_wholeSize_1; rw [ey_2])
  refine lv_lstore (lv' := [(5, .long y_2), (4, .int y_1), (0, .int p0), (1, .long p1), (3, .int p2)]) hx hb dX0_wholeSize_11 hl (by decide) rfl (fun ls hl => ?_)
  refine lv_iload_n hx hb dX0_wholeSize_13 rfl (lv_at hl 2 rfl) ?_
  refine cs_l (W.runS (As := [.int p0]) (rest := []) ⟨hx, hb, hml, hown, hts⟩ (c_X0_oneOf l p0 ) (va_cwS 1 hts gX0_wholeSize_X0_oneOf rfl rfl rfl (by decide +kernel) ⟨Nat.le_of_ble_eq_true rfl, Nat.le_of_ble_eq_true rfl⟩) fb_s rfl rfl hl.1 rfl (lv_room (Nat.le_of_ble_eq_true rfl)) dX0_wholeSize_14 ⟨Nat.zero_le _, Nat.zero_le _⟩) ?_
  refine lv_topl (fun y_3 ey_3 => ?_)
  have q_3 : n_wholeSize p0 p1 p2 = n_wholeSize_3 p0 p1 p2 y_1 y_2 y_3 := q_2.trans (by unfold n_wholeSize_2; rw [ey_3])
  refine lv_lstore (lv' := [(7, .long y_3), (5, .long y_2), (4, .int y_1), (0, .int p0), (1, .long p1), (3, .int p2)]) hx hb dX0_wholeSize_17 hl (by decide) rfl (fun ls hl => ?_)
  refine lv_lload hx hb dX0_wholeSize_19 (lv_at hl 1 rfl) ?_
  refine lv_lload hx hb dX0_wholeSize_21 (lv_at hl 0 rfl) ?_
  refine W.lcmp hx hb dX0_wholeSize_23 ?_
  refine lv_if_ge (tgt := 64) hx hb dX0_wholeSize_24 (by decide) (fun c_4 => ?_) (fun c_4 => ?_)
  · skip
    have c_4 : y_3 ≤ y_2 := (lg_cmp_ge _ _).mp c_4
    refine lv_lload hx hb dX0_wholeSize_64 (lv_at hl 1 rfl) ?_
    refine lv_lload hx hb dX0_wholeSize_66 (lv_at hl 0 rfl) ?_
    refine lv_lsub hx hb dX0_wholeSize_68 ?_
    refine lv_iload hx hb dX0_wholeSize_69 (lv_at hl 2 rfl) ?_
    refine lv_lshr hx hb dX0_wholeSize_71 rfl ?_
    refine lv_topl (fun y_5 ey_5 => ?_)
    have q_4 : n_wholeSize p0 p1 p2 = n_wholeSize_4 p0 p1 p2 y_1 y_2 y_3 y_5 := q_3.trans (by unfold n_wholeSize_3; rw [if_pos c_4, ey_5])
    refine lv_lstore (lv' := [(9, .long y_5), (7, .long y_3), (5, .long y_2), (4, .int y_1), (0, .int p0), (1, .long p1), (3, .int p2)]) hx hb dX0_wholeSize_72 hl (by decide) rfl (fun ls hl => ?_)
    refine lv_lload hx hb dX0_wholeSize_74 (lv_at hl 0 rfl) ?_
    refine lv_iload hx hb dX0_wholeSize_76 (lv_at hl 3 rfl) ?_
    refine lv_i2l hx hb dX0_wholeSize_78 rfl ?_
    refine W.lcmp hx hb dX0_wholeSize_79 ?_
    refine lv_if_lt (tgt := 86) hx hb dX0_wholeSize_80 (by decide) (fun c_6 => ?_) (fun c_6 => ?_)
    · skip
      have c_6 : y_5 < y_1.toInt64 := (lg_cmp_lt _ _).mp c_6
      refine lv_lconst (v := 1) hx hb dX0_wholeSize_86 (by decide) ?_
      refine lv_iload hx hb dX0_wholeSize_87 (lv_at hl 3 rfl) ?_
      refine lv_i2l hx hb dX0_wholeSize_89 rfl ?_
      refine lv_lload hx hb dX0_wholeSize_90 (lv_at hl 0 rfl) ?_
      refine lv_lsub hx hb dX0_wholeSize_92 ?_
      refine lv_l2i hx hb dX0_wholeSize_93 rfl ?_
      refine lv_lshl hx hb dX0_wholeSize_94 rfl ?_
      refine lv_topl (fun y_7 ey_7 => ?_)
      have q_5 : n_wholeSize p0 p1 p2 = n_wholeSize_5 p0 p1 p2 y_1 y_2 y_3 y_5 y_7 := q_4.trans (by unfold n_wholeSize_4; rw [if_pos c_6, ey_7])
      refine lv_lstore (lv' := [(11, .long y_7), (9, .long y_5), (7, .long y_3), (5, .long y_2), (4, .int y_1), (0, .int p0), (1, .long p1), (3, .int p2)]) hx hb dX0_wholeSize_95 hl (by decide) rfl (fun ls hl => ?_)
      refine lv_lload hx hb dX0_wholeSize_97 (lv_at hl 3 rfl) ?_
      refine lv_lload hx hb dX0_wholeSize_99 (lv_at hl 0 rfl) ?_
      refine lv_lneg hx hb dX0_wholeSize_101 ?_
      refine lv_land hx hb dX0_wholeSize_102 ?_
      refine lv_topl (fun y_8 ey_8 => ?_)
      have q_6 : n_wholeSize p0 p1 p2 = n_wholeSize_6 p0 p1 p2 y_1 y_2 y_3 y_5 y_7 y_8 := q_5.trans (by unfold n_wholeSize_5; rw [ey_8])
      refine lv_lstore (lv' := [(13, .long y_8), (11, .long y_7), (9, .long y_5), (7, .long y_3), (5, .long y_2), (4, .int y_1), (0, .int p0), (1, .long p1), (3, .int p2)]) hx hb dX0_wholeSize_103 hl (by decide) rfl (fun ls hl => ?_)
      refine lv_lload hx hb dX0_wholeSize_105 (lv_at hl 4 rfl) ?_
      refine lv_lload hx hb dX0_wholeSize_107 (lv_at hl 0 rfl) ?_
      refine lv_lsub hx hb dX0_wholeSize_109 ?_
      refine lv_topl (fun y_9 ey_9 => ?_)
      have q_7 : n_wholeSize p0 p1 p2 = n_wholeSize_7 p0 p1 p2 y_1 y_2 y_3 y_5 y_7 y_8 y_9 := q_6.trans (by unfold n_wholeSize_6; rw [ey_9])
      refine lv_lstore (lv' := [(15, .long y_9), (13, .long y_8), (11, .long y_7), (9, .long y_5), (7, .long y_3), (5, .long y_2), (4, .int y_1), (0, .int p0), (1, .long p1), (3, .int p2)]) hx hb dX0_wholeSize_110 hl (by decide) rfl (fun ls hl => ?_)
      refine lv_lload hx hb dX0_wholeSize_112 (lv_at hl 0 rfl) ?_
      refine lv_lconst (v := 0) hx hb dX0_wholeSize_114 (by decide) ?_
      refine W.lcmp hx hb dX0_wholeSize_115 ?_
      refine lv_if_ne (tgt := 122) hx hb dX0_wholeSize_116 (by decide) (fun c_10 => ?_) (fun c_10 => ?_)
      · skip
        have c_10 : ¬ (y_9 = (0 : Int64)) := fun h => c_10 ((lg_cmp_eq _ _).mpr h)
        refine lv_lload hx hb dX0_wholeSize_122 (lv_at hl 1 rfl) ?_
        refine lv_lload hx hb dX0_wholeSize_124 (lv_at hl 2 rfl) ?_
        refine lv_land hx hb dX0_wholeSize_126 ?_
        refine lv_lconst (v := 0) hx hb dX0_wholeSize_127 (by decide) ?_
        refine W.lcmp hx hb dX0_wholeSize_128 ?_
        refine lv_join (val := if (y_8 &&& y_7) = (0 : Int64) then (0 : Int32) else (1 : Int32)) (g := fun v => F0 m 137 ls (.int v :: [])) (fun y_11 ey_11 => ?_) (fun K_y_11 => ?_)
        · skip
          have q_8 : n_wholeSize p0 p1 p2 = n_wholeSize_8 p0 p1 p2 y_1 y_2 y_3 y_5 y_7 y_8 y_9 y_11 := q_7.trans (by unfold n_wholeSize_7; rw [if_neg c_10, ey_11])
          refine lv_istore (lv' := [(17, .int y_11), (15, .long y_9), (13, .long y_8), (11, .long y_7), (9, .long y_5), (7, .long y_3), (5, .long y_2), (4, .int y_1), (0, .int p0), (1, .long p1), (3, .int p2)]) hx hb dX0_wholeSize_137 hl (by decide) rfl (fun ls hl => ?_)
          refine lv_lload hx hb dX0_wholeSize_139 (lv_at hl 3 rfl) ?_
          refine lv_iconst (v := 1) hx hb dX0_wholeSize_141 (by decide) ?_
          refine lv_lshr hx hb dX0_wholeSize_142 rfl ?_
          refine lv_topl (fun y_13 ey_13 => ?_)
          have q_9 : n_wholeSize p0 p1 p2 = n_wholeSize_9 p0 p1 p2 y_1 y_2 y_3 y_5 y_7 y_8 y_9 y_11 y_13 := q_8.trans (by unfold n_wholeSize_8; rw [ey_13])
          refine lv_lstore (lv' := [(18, .long y_13), (17, .int y_11), (15, .long y_9), (13, .long y_8), (11, .long y_7), (9, .long y_5), (7, .long y_3), (5, .long y_2), (4, .int y_1), (0, .int p0), (1, .long p1), (3, .int p2)]) hx hb dX0_wholeSize_143 hl (by decide) rfl (fun ls hl => ?_)
          refine lv_lload hx hb dX0_wholeSize_145 (lv_at hl 2 rfl) ?_
          refine lv_lload hx hb dX0_wholeSize_147 (lv_at hl 0 rfl) ?_
          refine W.lcmp hx hb dX0_wholeSize_149 ?_
          refine lv_join (val := if y_13 < y_9 then (1 : Int32) else if y_9 = y_13 then (if y_11 = 0 then (0 : Int32) else (1 : Int32)) else (0 : Int32)) (g := fun v => F0 m 171 ls (.int v :: [])) (fun y_14 ey_14 => ?_) (fun K_y_14 => ?_)
          · skip
            have q_10 : n_wholeSize p0 p1 p2 = n_wholeSize_10 p0 p1 p2 y_1 y_2 y_3 y_5 y_7 y_8 y_9 y_11 y_13 y_14 := q_9.trans (by unfold n_wholeSize_9; rw [ey_14])
            refine lv_istore (lv' := [(20, .int y_14), (18, .long y_13), (17, .int y_11), (15, .long y_9), (13, .long y_8), (11, .long y_7), (9, .long y_5), (7, .long y_3), (5, .long y_2), (4, .int y_1), (0, .int p0), (1, .long p1), (3, .int p2)]) hx hb dX0_wholeSize_171 hl (by decide) rfl (fun ls hl => ?_)
            refine lv_lload_n hx hb dX0_wholeSize_173 rfl (lv_at hl 11 rfl) ?_
            refine lv_iload_n hx hb dX0_wholeSize_174 rfl (lv_at hl 12 rfl) ?_
            refine lv_iload hx hb dX0_wholeSize_175 (lv_at hl 0 rfl) ?_
            refine cs_i (W.runS (As := [.long p1, .int p2, .int y_14]) (rest := []) ⟨hx, hb, hml, hown, hts⟩ (c_X0_isAway l p1 p2 y_14 (nz_b (by rw [ey_14]; (repeat' split) <;> first | exact Or.inl rfl | exact Or.inr rfl))) (va_cwS 3 hts gX0_wholeSize_X0_isAway rfl rfl rfl (by decide +kernel) ⟨Nat.le_of_ble_eq_true rfl, Nat.le_of_ble_eq_true rfl⟩) fb_s rfl rfl hl.1 rfl (lv_room (Nat.le_of_ble_eq_true rfl)) dX0_wholeSize_177 ⟨Nat.zero_le _, Nat.zero_le _⟩) ?_
            refine lv_if_eq (tgt := 191) hx hb dX0_wholeSize_180 (by decide) (fun c_18 => ?_) (fun c_18 => ?_)
            · skip
              refine lv_lload hx hb dX0_wholeSize_191 (lv_at hl 4 rfl) ?_
              exact W.lret (v := y_8) hx hb hr (fun t ht hW => ⟨_, rfl, (q_10.trans (by unfold n_wholeSize_10; rw [if_pos c_18])).symm, ht⟩) (fun _ h => by cases h) dX0_wholeSize_193
            · skip
              refine lv_lload hx hb dX0_wholeSize_183 (lv_at hl 4 rfl) ?_
              refine lv_lload hx hb dX0_wholeSize_185 (lv_at hl 5 rfl) ?_
              refine lv_ladd hx hb dX0_wholeSize_187 ?_
              refine lv_goto (tgt := 193) hx hb dX0_wholeSize_188 (by decide) ?_
              exact W.lret (v := (y_8 + y_7)) hx hb hr (fun t ht hW => ⟨_, rfl, (q_10.trans (by unfold n_wholeSize_10; rw [if_neg c_18])).symm, ht⟩) (fun _ h => by cases h) dX0_wholeSize_193
          · skip
            refine lv_if_gt (tgt := 166) hx hb dX0_wholeSize_150 (by decide) (fun c_15 => ?_) (fun c_15 => ?_)
            · skip
              have c_15 : y_13 < y_9 := (lg_cmp_gt _ _).mp c_15
              refine lv_iconst (v := 1) hx hb dX0_wholeSize_166 (by decide) ?_
              refine lv_goto (tgt := 171) hx hb dX0_wholeSize_167 (by decide) ?_
              exact K_y_14 _ (by rw [if_pos c_15])
            · skip
              have c_15 : ¬ (y_13 < y_9) := fun h => c_15 ((lg_cmp_gt _ _).mpr h)
              refine lv_lload hx hb dX0_wholeSize_153 (lv_at hl 2 rfl) ?_
              refine lv_lload hx hb dX0_wholeSize_155 (lv_at hl 0 rfl) ?_
              refine W.lcmp hx hb dX0_wholeSize_157 ?_
              refine lv_if_ne (tgt := 170) hx hb dX0_wholeSize_158 (by decide) (fun c_16 => ?_) (fun c_16 => ?_)
              · skip
                have c_16 : ¬ (y_9 = y_13) := fun h => c_16 ((lg_cmp_eq _ _).mpr h)
                refine lv_iconst (v := 0) hx hb dX0_wholeSize_170 (by decide) ?_
                exact K_y_14 _ (by rw [if_neg c_15, if_neg c_16])
              · skip
                have c_16 : y_9 = y_13 := (lg_cmp_eq _ _).mp c_16
                refine lv_iload hx hb dX0_wholeSize_161 (lv_at hl 1 rfl) ?_
                refine lv_if_eq (tgt := 170) hx hb dX0_wholeSize_163 (by decide) (fun c_17 => ?_) (fun c_17 => ?_)
                · skip
                  refine lv_iconst (v := 0) hx hb dX0_wholeSize_170 (by decide) ?_
                  exact K_y_14 _ (by rw [if_neg c_15, if_pos c_16, if_pos c_17])
                · skip
                  refine lv_iconst (v := 1) hx hb dX0_wholeSize_166 (by decide) ?_
                  refine lv_goto (tgt := 171) hx hb dX0_wholeSize_167 (by decide) ?_
                  exact K_y_14 _ (by rw [if_neg c_15, if_pos c_16, if_neg c_17])
        · skip
          refine lv_if_eq (tgt := 136) hx hb dX0_wholeSize_129 (by decide) (fun c_12 => ?_) (fun c_12 => ?_)
          · skip
            have c_12 : (y_8 &&& y_7) = (0 : Int64) := (lg_cmp_eq _ _).mp c_12
            refine lv_iconst (v := 0) hx hb dX0_wholeSize_136 (by decide) ?_
            exact K_y_11 _ (by rw [if_pos c_12])
          · skip
            have c_12 : ¬ ((y_8 &&& y_7) = (0 : Int64)) := fun h => c_12 ((lg_cmp_eq _ _).mpr h)
            refine lv_iconst (v := 1) hx hb dX0_wholeSize_132 (by decide) ?_
            refine lv_goto (tgt := 137) hx hb dX0_wholeSize_133 (by decide) ?_
            exact K_y_11 _ (by rw [if_neg c_12])
      · skip
        have c_10 : y_9 = (0 : Int64) := (lg_cmp_eq _ _).mp c_10
        refine lv_lload hx hb dX0_wholeSize_119 (lv_at hl 5 rfl) ?_
        exact W.lret (v := y_2) hx hb hr (fun t ht hW => ⟨_, rfl, (q_7.trans (by unfold n_wholeSize_7; rw [if_pos c_10])).symm, ht⟩) (fun _ h => by cases h) dX0_wholeSize_121
    · skip
      have c_6 : ¬ (y_5 < y_1.toInt64) := fun h => c_6 ((lg_cmp_lt _ _).mpr h)
      refine lv_lload hx hb dX0_wholeSize_83 (lv_at hl 2 rfl) ?_
      exact W.lret (v := y_2) hx hb hr (fun t ht hW => ⟨_, rfl, (q_4.trans (by unfold n_wholeSize_4; rw [if_neg c_6])).symm, ht⟩) (fun _ h => by cases h) dX0_wholeSize_85
  · skip
    have c_4 : ¬ (y_3 ≤ y_2) := fun h => c_4 ((lg_cmp_ge _ _).mpr h)
    refine lv_lload hx hb dX0_wholeSize_27 (lv_at hl 0 rfl) ?_
    refine lv_lconst (v := 1) hx hb dX0_wholeSize_29 (by decide) ?_
    refine lv_iload hx hb dX0_wholeSize_30 (lv_at hl 2 rfl) ?_
    refine lv_lshl hx hb dX0_wholeSize_32 rfl ?_
    refine lv_lsub hx hb dX0_wholeSize_33 ?_
    refine lv_topl (fun y_19 ey_19 => ?_)
    have q_11 : n_wholeSize p0 p1 p2 = n_wholeSize_11 p0 p1 p2 y_1 y_2 y_3 y_19 := q_3.trans (by unfold n_wholeSize_3; rw [if_neg c_4, ey_19])
    refine lv_lstore (lv' := [(9, .long y_19), (7, .long y_3), (5, .long y_2), (4, .int y_1), (0, .int p0), (1, .long p1), (3, .int p2)]) hx hb dX0_wholeSize_34 hl (by decide) rfl (fun ls hl => ?_)
    refine lv_lload_n hx hb dX0_wholeSize_36 rfl (lv_at hl 5 rfl) ?_
    refine lv_iload_n hx hb dX0_wholeSize_37 rfl (lv_at hl 6 rfl) ?_
    refine lv_lload hx hb dX0_wholeSize_38 (lv_at hl 2 rfl) ?_
    refine lv_lload hx hb dX0_wholeSize_40 (lv_at hl 0 rfl) ?_
    refine W.lcmp hx hb dX0_wholeSize_42 ?_
    refine lv_join (val := if y_2 ≤ y_19 then (0 : Int32) else (1 : Int32)) (g := fun v => F0 m 51 ls (.int v :: .int p2 :: .long p1 :: [])) (fun y_20 ey_20 => ?_) (fun K_y_20 => ?_)
    · skip
      have q_12 : n_wholeSize p0 p1 p2 = n_wholeSize_12 p0 p1 p2 y_1 y_2 y_3 y_19 y_20 := q_11.trans (by unfold n_wholeSize_11; rw [ey_20])
      refine cs_i (W.runS (As := [.long p1, .int p2, .int y_20]) (rest := []) ⟨hx, hb, hml, hown, hts⟩ (c_X0_isAway l p1 p2 y_20 (nz_b (by rw [ey_20]; (repeat' split) <;> first | exact Or.inl rfl | exact Or.inr rfl))) (va_cwS 3 hts gX0_wholeSize_X0_isAway rfl rfl rfl (by decide +kernel) ⟨Nat.le_of_ble_eq_true rfl, Nat.le_of_ble_eq_true rfl⟩) fb_s rfl rfl hl.1 rfl (lv_room (Nat.le_of_ble_eq_true rfl)) dX0_wholeSize_51 ⟨Nat.zero_le _, Nat.zero_le _⟩) ?_
      refine lv_if_eq (tgt := 62) hx hb dX0_wholeSize_54 (by decide) (fun c_22 => ?_) (fun c_22 => ?_)
      · skip
        refine lv_lconst (v := 0) hx hb dX0_wholeSize_62 (by decide) ?_
        exact W.lret (v := (0 : Int64)) hx hb hr (fun t ht hW => ⟨_, rfl, (q_12.trans (by unfold n_wholeSize_12; rw [if_pos c_22])).symm, ht⟩) (fun _ h => by cases h) dX0_wholeSize_63
      · skip
        refine lv_lload hx hb dX0_wholeSize_57 (lv_at hl 1 rfl) ?_
        refine lv_goto (tgt := 63) hx hb dX0_wholeSize_59 (by decide) ?_
        exact W.lret (v := y_3) hx hb hr (fun t ht hW => ⟨_, rfl, (q_12.trans (by unfold n_wholeSize_12; rw [if_neg c_22])).symm, ht⟩) (fun _ h => by cases h) dX0_wholeSize_63
    · skip
      refine lv_if_le (tgt := 50) hx hb dX0_wholeSize_43 (by decide) (fun c_21 => ?_) (fun c_21 => ?_)
      · skip
        have c_21 : y_2 ≤ y_19 := (lg_cmp_le _ _).mp c_21
        refine lv_iconst (v := 0) hx hb dX0_wholeSize_50 (by decide) ?_
        exact K_y_20 _ (by rw [if_pos c_21])
      · skip
        have c_21 : ¬ (y_2 ≤ y_19) := fun h => c_21 ((lg_cmp_le _ _).mpr h)
        refine lv_iconst (v := 1) hx hb dX0_wholeSize_46 (by decide) ?_
        refine lv_goto (tgt := 51) hx hb dX0_wholeSize_47 (by decide) ?_
        exact K_y_20 _ (by rw [if_neg c_21])
def n_turned (p0 : Int32) (p1 : Int64) (p2 : Int32) : Int64 :=
  if p2 = 0 then (n_sizeOf p0 p1)
  else if (n_sizeOf p0 p1) = (0 : Int64) then p1
    else if p2 = (4 : Int32) then (n_signed p0 (n_oneOf p0) p1)
      else (n_signed p0 (n_wholeSize p0 p1 p2) p1)
set_option maxHeartbeats 4000000 in
set_option maxRecDepth 100000 in
theorem c_X0_turned (l : Launch) (p0 : Int32) (p1 : Int64) (p2 : Int32) : Met l yX0_turned wsX0_turned ({ frames := 3, cells := 0, slots := 0, locals := 83 }) (va_Pc [.int p0, .long p1, .int p2] (fun _ => True)) (vp_Sl (fun r => r = n_turned p0 p1 p2)) 0 0 (fun _ => False) := by
  refine Met.ofW (cc := cX0_turned) (maxL := 4) (ret := (some .long)) (by decide) rfl ?_
  intro p e s m args below meth c s₁ B hml hv
  obtain ⟨rfl, -⟩ := hv
  have hx := B.exec
  have hb := B.bytes
  have hr := B.returns
  have hts := atoms_spec (ws := wsX0_turned) B.pre
  have hown : s.vm.findClass RX0 = some m.cls := findClass_of_methodNamed B.named
  have hlocks := B.notSynchronized
  have hl := lv_entry ([.int p0, .long p1, .int p2]) (n := 4) (Nat.le_of_ble_eq_true rfl)
  rw [lg_entry_eq]
  generalize (lg_sl ([.int p0, .long p1, .int p2]) ++ List.replicate (4 - (lg_sl ([.int p0, .long p1, .int p2])).length) Slot.unset).toArray = ls at hl ⊢
  have hl : lv_has ls 4 [(0, .int p0), (1, .long p1), (3, .int p2)] := hl
  refine lv_iload_n hx hb dX0_turned_0 rfl (lv_at hl 2 rfl) ?_
  refine lv_if_ne (tgt := 10) hx hb dX0_turned_1 (by decide) (fun c_1 => ?_) (fun c_1 => ?_)
  · skip
    refine lv_iload_n hx hb dX0_turned_10 rfl (lv_at hl 0 rfl) ?_
    refine lv_lload_n hx hb dX0_turned_11 rfl (lv_at hl 1 rfl) ?_
    refine cs_l (W.runS (As := [.int p0, .long p1]) (rest := []) ⟨hx, hb, hml, hown, hts⟩ (c_X0_sizeOf l p0 p1 ) (va_cwS 2 hts gX0_turned_X0_sizeOf rfl rfl rfl (by decide +kernel) ⟨Nat.le_of_ble_eq_true rfl, Nat.le_of_ble_eq_true rfl⟩) fb_s rfl rfl hl.1 rfl (lv_room (Nat.le_of_ble_eq_true rfl)) dX0_turned_12 ⟨Nat.zero_le _, Nat.zero_le _⟩) ?_
    refine lv_lconst (v := 0) hx hb dX0_turned_15 (by decide) ?_
    refine W.lcmp hx hb dX0_turned_16 ?_
    refine lv_if_ne (tgt := 22) hx hb dX0_turned_17 (by decide) (fun c_2 => ?_) (fun c_2 => ?_)
    · skip
      have c_2 : ¬ ((n_sizeOf p0 p1) = (0 : Int64)) := fun h => c_2 ((lg_cmp_eq _ _).mpr h)
      refine lv_iload_n hx hb dX0_turned_22 rfl (lv_at hl 2 rfl) ?_
      refine lv_iconst (v := 4) hx hb dX0_turned_23 (by decide) ?_
      refine lv_icmp_ne (tgt := 37) hx hb dX0_turned_24 (by decide) (fun c_3 => ?_) (fun c_3 => ?_)
      · skip
        refine lv_iload_n hx hb dX0_turned_37 rfl (lv_at hl 0 rfl) ?_
        refine lv_iload_n hx hb dX0_turned_38 rfl (lv_at hl 0 rfl) ?_
        refine lv_lload_n hx hb dX0_turned_39 rfl (lv_at hl 1 rfl) ?_
        refine lv_iload_n hx hb dX0_turned_40 rfl (lv_at hl 2 rfl) ?_
        refine cs_l (W.runS (As := [.int p0, .long p1, .int p2]) (rest := [.int p0]) ⟨hx, hb, hml, hown, hts⟩ (c_X0_wholeSize l p0 p1 p2 ) (va_cwS 3 hts gX0_turned_X0_wholeSize rfl rfl rfl (by decide +kernel) ⟨Nat.le_of_ble_eq_true rfl, Nat.le_of_ble_eq_true rfl⟩) fb_s rfl rfl hl.1 rfl (lv_room (Nat.le_of_ble_eq_true rfl)) dX0_turned_41 ⟨Nat.zero_le _, Nat.zero_le _⟩) ?_
        refine lv_lload_n hx hb dX0_turned_44 rfl (lv_at hl 1 rfl) ?_
        refine cs_l (W.runS (As := [.int p0, .long (n_wholeSize p0 p1 p2), .long p1]) (rest := []) ⟨hx, hb, hml, hown, hts⟩ (c_X0_signed l p0 (n_wholeSize p0 p1 p2) p1 ) (va_cwS 3 hts gX0_turned_X0_signed rfl rfl rfl (by decide +kernel) ⟨Nat.le_of_ble_eq_true rfl, Nat.le_of_ble_eq_true rfl⟩) fb_s rfl rfl hl.1 rfl (lv_room (Nat.le_of_ble_eq_true rfl)) dX0_turned_45 ⟨Nat.zero_le _, Nat.zero_le _⟩) ?_
        exact W.lret (v := (n_signed p0 (n_wholeSize p0 p1 p2) p1)) hx hb hr (fun t ht hW => ⟨_, rfl, (by unfold n_turned; rw [if_neg c_1, if_neg c_2, if_neg c_3]), ht⟩) (fun _ h => by cases h) dX0_turned_48
      · skip
        refine lv_iload_n hx hb dX0_turned_27 rfl (lv_at hl 0 rfl) ?_
        refine lv_iload_n hx hb dX0_turned_28 rfl (lv_at hl 0 rfl) ?_
        refine cs_l (W.runS (As := [.int p0]) (rest := [.int p0]) ⟨hx, hb, hml, hown, hts⟩ (c_X0_oneOf l p0 ) (va_cwS 1 hts gX0_turned_X0_oneOf rfl rfl rfl (by decide +kernel) ⟨Nat.le_of_ble_eq_true rfl, Nat.le_of_ble_eq_true rfl⟩) fb_s rfl rfl hl.1 rfl (lv_room (Nat.le_of_ble_eq_true rfl)) dX0_turned_29 ⟨Nat.zero_le _, Nat.zero_le _⟩) ?_
        refine lv_lload_n hx hb dX0_turned_32 rfl (lv_at hl 1 rfl) ?_
        refine cs_l (W.runS (As := [.int p0, .long (n_oneOf p0), .long p1]) (rest := []) ⟨hx, hb, hml, hown, hts⟩ (c_X0_signed l p0 (n_oneOf p0) p1 ) (va_cwS 3 hts gX0_turned_X0_signed rfl rfl rfl (by decide +kernel) ⟨Nat.le_of_ble_eq_true rfl, Nat.le_of_ble_eq_true rfl⟩) fb_s rfl rfl hl.1 rfl (lv_room (Nat.le_of_ble_eq_true rfl)) dX0_turned_33 ⟨Nat.zero_le _, Nat.zero_le _⟩) ?_
        exact W.lret (v := (n_signed p0 (n_oneOf p0) p1)) hx hb hr (fun t ht hW => ⟨_, rfl, (by unfold n_turned; rw [if_neg c_1, if_neg c_2, if_pos c_3]), ht⟩) (fun _ h => by cases h) dX0_turned_36
    · skip
      have c_2 : (n_sizeOf p0 p1) = (0 : Int64) := (lg_cmp_eq _ _).mp c_2
      refine lv_lload_n hx hb dX0_turned_20 rfl (lv_at hl 1 rfl) ?_
      exact W.lret (v := p1) hx hb hr (fun t ht hW => ⟨_, rfl, (by unfold n_turned; rw [if_neg c_1, if_pos c_2]), ht⟩) (fun _ h => by cases h) dX0_turned_21
  · skip
    refine lv_iload_n hx hb dX0_turned_4 rfl (lv_at hl 0 rfl) ?_
    refine lv_lload_n hx hb dX0_turned_5 rfl (lv_at hl 1 rfl) ?_
    refine cs_l (W.runS (As := [.int p0, .long p1]) (rest := []) ⟨hx, hb, hml, hown, hts⟩ (c_X0_sizeOf l p0 p1 ) (va_cwS 2 hts gX0_turned_X0_sizeOf rfl rfl rfl (by decide +kernel) ⟨Nat.le_of_ble_eq_true rfl, Nat.le_of_ble_eq_true rfl⟩) fb_s rfl rfl hl.1 rfl (lv_room (Nat.le_of_ble_eq_true rfl)) dX0_turned_6 ⟨Nat.zero_le _, Nat.zero_le _⟩) ?_
    exact W.lret (v := (n_sizeOf p0 p1)) hx hb hr (fun t ht hW => ⟨_, rfl, (by unfold n_turned; rw [if_pos c_1]), ht⟩) (fun _ h => by cases h) dX0_turned_9
end
section
def x_isSort (p0 : Int32) : Int32 :=
  if p0 < 0 then (0 : Int32)
  else if (3 : Int32) < p0 then (0 : Int32)
    else (1 : Int32)
set_option maxHeartbeats 4000000 in
set_option maxRecDepth 100000 in
theorem c_X2_isSort (l : Launch) (p0 : Int32) : Met l yX2_isSort wsX2_isSort ({ frames := 0, cells := 0, slots := 0, locals := 0 }) (va_Pc [.int p0] (fun _ => True)) (vp_Si (fun r => r = x_isSort p0)) 0 0 (fun _ => False) := by
  refine Met.ofW (cc := cX2_isSort) (maxL := 1) (ret := (some .boolean)) (by decide) rfl ?_
  intro p e s m args below meth c s₁ B hml hv
  obtain ⟨rfl, -⟩ := hv
  have hx := B.exec
  have hb := B.bytes
  have hr := B.returns
  have hts := atoms_spec (ws := wsX2_isSort) B.pre
  have hown : s.vm.findClass RX2 = some m.cls := findClass_of_methodNamed B.named
  have hlocks := B.notSynchronized
  have hl := lv_entry ([.int p0]) (n := 1) (Nat.le_of_ble_eq_true rfl)
  rw [lg_entry_eq]
  generalize (lg_sl ([.int p0]) ++ List.replicate (1 - (lg_sl ([.int p0])).length) Slot.unset).toArray = ls at hl ⊢
  have hl : lv_has ls 1 [(0, .int p0)] := hl
  refine lv_iload_n hx hb dX2_isSort_0 rfl (lv_at hl 0 rfl) ?_
  refine lv_if_lt (tgt := 13) hx hb dX2_isSort_1 (by decide) (fun c_1 => ?_) (fun c_1 => ?_)
  · skip
    refine lv_iconst (v := 0) hx hb dX2_isSort_13 (by decide) ?_
    exact W.zret (v := (0 : Int32)) hx hb hr (by first | rfl | decide | assumption) (fun t ht hW => ⟨_, rfl, (by unfold x_isSort; rw [if_pos c_1]), ht⟩) (fun _ h => by cases h) dX2_isSort_14
  · skip
    refine lv_iload_n hx hb dX2_isSort_4 rfl (lv_at hl 0 rfl) ?_
    refine lv_iconst (v := 3) hx hb dX2_isSort_5 (by decide) ?_
    refine lv_icmp_gt (tgt := 13) hx hb dX2_isSort_6 (by decide) (fun c_2 => ?_) (fun c_2 => ?_)
    · skip
      refine lv_iconst (v := 0) hx hb dX2_isSort_13 (by decide) ?_
      exact W.zret (v := (0 : Int32)) hx hb hr (by first | rfl | decide | assumption) (fun t ht hW => ⟨_, rfl, (by unfold x_isSort; rw [if_neg c_1, if_pos c_2]), ht⟩) (fun _ h => by cases h) dX2_isSort_14
    · skip
      refine lv_iconst (v := 1) hx hb dX2_isSort_9 (by decide) ?_
      refine lv_goto (tgt := 14) hx hb dX2_isSort_10 (by decide) ?_
      exact W.zret (v := (1 : Int32)) hx hb hr (by first | rfl | decide | assumption) (fun t ht hW => ⟨_, rfl, (by unfold x_isSort; rw [if_neg c_1, if_neg c_2]), ht⟩) (fun _ h => by cases h) dX2_isSort_14
def x_isDial (nd : Int32) (p0 : Int32) : Int32 :=
  if p0 < 0 then (0 : Int32)
  else if nd ≤ p0 then (0 : Int32)
    else (1 : Int32)
set_option maxHeartbeats 4000000 in
set_option maxRecDepth 100000 in
theorem c_X2_isDial (l : Launch) (dC : Nat → ClassId) (dI : Nat → Nat → Nat) (cI cJ cZ : ClassId) (a : Nat → Nat) (kd : Nat → Int32) (lo : Nat → Int64) (hi : Nat → Int64) (vl : Nat → Int64) (nd : Int32) (so : Nat → Int32) (fr : Nat → Int32) (tg : Nat → Int32) (gn : Nat → Int32) (nr : Int32) (mo : Int32) (ma : Int32) (fa : Int32) (sv : Nat → Int64) (sd : Nat → Int32) (se : Int32) (sh : Int32) (p0 : Int32) : Met l yX2_isDial wsX2_isDial ({ frames := 0, cells := 0, slots := 0, locals := 0 }) (va_Pc [.ref (a 0), .int p0] (fun U => va_P (dC, dI) vwCl (wX cI cJ cZ a kd lo hi vl nd so fr tg gn nr mo ma fa sv sd se sh) U.heap ∧ va_K (dC, dI) vwCl (tA cI cJ cZ) U)) (vp_Si (fun r => r = x_isDial nd p0)) 0 0 (fun _ => False) := by
  refine Met.ofW (cc := cX2_isDial) (maxL := 2) (ret := (some .boolean)) (by decide) rfl ?_
  intro p e s m args below meth c s₁ B hml hv
  obtain ⟨rfl, hP, hK⟩ := hv
  have hx := B.exec
  have hb := B.bytes
  have hr := B.returns
  have hts := atoms_spec (ws := wsX2_isDial) B.pre
  have hown : s.vm.findClass RX2 = some m.cls := findClass_of_methodNamed B.named
  have hlocks := B.notSynchronized
  have h_inX2 : ∀ w ∈ wsX20, w ∈ wsX2_isDial := fun _ h => List.mem_cons_of_mem _ (List.mem_append_right _ h)
  have k_0 := hts (.fieldLink RX2 51 "DetentCabinet" "dialCount" "I") (by decide +kernel)
  have hl := lv_entry ([.ref (a 0), .int p0]) (n := 2) (Nat.le_of_ble_eq_true rfl)
  rw [lg_entry_eq]
  generalize (lg_sl ([.ref (a 0), .int p0]) ++ List.replicate (2 - (lg_sl ([.ref (a 0), .int p0])).length) Slot.unset).toArray = ls at hl ⊢
  have hl : lv_has ls 2 [(0, .ref (a 0)), (1, .int p0)] := hl
  refine lv_iload_n hx hb dX2_isDial_0 rfl (lv_at hl 1 rfl) ?_
  refine lv_if_lt (tgt := 16) hx hb dX2_isDial_1 (by decide) (fun c_1 => ?_) (fun c_1 => ?_)
  · skip
    refine lv_iconst (v := 0) hx hb dX2_isDial_16 (by decide) ?_
    exact W.zret (v := (0 : Int32)) hx hb hr (by first | rfl | decide | assumption) (fun t ht hW => ⟨_, rfl, (by unfold x_isDial; rw [if_pos c_1]), ht⟩) (fun _ h => by cases h) dX2_isDial_17
  · skip
    refine lv_iload_n hx hb dX2_isDial_4 rfl (lv_at hl 1 rfl) ?_
    refine lv_aload_n hx hb dX2_isDial_5 rfl (lv_at hl 0 rfl) ?_
    refine va_get (D := (dC, dI)) (ci := 1) (v := .int nd) (C := RX2) (T := TX2) (N := 14) hx hb hts h_inX2 hown hK hP 0 rfl rfl 4 (by decide) k_0 (fun _ h9 => h9) rfl dX2_isDial_6 ?_
    refine lv_icmp_ge (tgt := 16) hx hb dX2_isDial_9 (by decide) (fun c_2 => ?_) (fun c_2 => ?_)
    · skip
      refine lv_iconst (v := 0) hx hb dX2_isDial_16 (by decide) ?_
      exact W.zret (v := (0 : Int32)) hx hb hr (by first | rfl | decide | assumption) (fun t ht hW => ⟨_, rfl, (by unfold x_isDial; rw [if_neg c_1, if_pos c_2]), ht⟩) (fun _ h => by cases h) dX2_isDial_17
    · skip
      refine lv_iconst (v := 1) hx hb dX2_isDial_12 (by decide) ?_
      refine lv_goto (tgt := 17) hx hb dX2_isDial_13 (by decide) ?_
      exact W.zret (v := (1 : Int32)) hx hb hr (by first | rfl | decide | assumption) (fun t ht hW => ⟨_, rfl, (by unfold x_isDial; rw [if_neg c_1, if_neg c_2]), ht⟩) (fun _ h => by cases h) dX2_isDial_17
theorem isDial_iff {nd d : Int32} : ¬ x_isDial nd d = 0 ↔ (0 ≤ d ∧ d < nd) := by
  unfold x_isDial
  by_cases h1 : d < 0
  · rw [if_pos h1]
    exact ⟨fun h => absurd rfl h, fun h => absurd h1 (Int32.not_lt.mpr h.1)⟩
  · rw [if_neg h1]
    by_cases h2 : nd ≤ d
    · rw [if_pos h2]
      exact ⟨fun h => absurd rfl h, fun h => absurd h.2 (Int32.not_lt.mpr h2)⟩
    · rw [if_neg h2]
      exact ⟨fun _ => ⟨Int32.not_lt.mp h1, Int32.not_le.mp h2⟩, fun _ => by decide⟩
theorem in_d {nd d : Int32} (hn : nd ≤ 16) (h : ¬ x_isDial nd d = 0) : vp_in d 16 := by
  obtain ⟨h1, h2⟩ := isDial_iff.mp h
  rw [vp_in_iff]
  rw [Int32.le_iff_toInt_le] at h1 hn
  rw [Int32.lt_iff_toInt_lt] at h2
  have e0 : (0 : Int32).toInt = 0 := by decide
  have e16 : (16 : Int32).toInt = 16 := by decide
  omega
def x_faultOfDial (nd : Int32) (p0 : Int32) (p1 : Int64) (p2 : Int64) : Int32 :=
  if p0 < 0 then (2 : Int32)
  else if p0 ≤ (3 : Int32) then (if nd < (16 : Int32) then (if (n_isOfKind p0 p1) = 0 then (3 : Int32)
        else if (n_isOfKind p0 p2) = 0 then (3 : Int32)
          else if (n_compared p0 p1 p2) ≤ 0 then (0 : Int32)
            else (4 : Int32))
      else (5 : Int32))
    else (2 : Int32)
set_option maxHeartbeats 4000000 in
set_option maxRecDepth 100000 in
theorem c_X2_faultOfDial (l : Launch) (dC : Nat → ClassId) (dI : Nat → Nat → Nat) (cI cJ cZ : ClassId) (a : Nat → Nat) (kd : Nat → Int32) (lo : Nat → Int64) (hi : Nat → Int64) (vl : Nat → Int64) (nd : Int32) (so : Nat → Int32) (fr : Nat → Int32) (tg : Nat → Int32) (gn : Nat → Int32) (nr : Int32) (mo : Int32) (ma : Int32) (fa : Int32) (sv : Nat → Int64) (sd : Nat → Int32) (se : Int32) (sh : Int32) (p0 : Int32) (p1 : Int64) (p2 : Int64) : Met l yX2_faultOfDial wsX2_faultOfDial ({ frames := 3, cells := 0, slots := 0, locals := 70 }) (va_Pc [.ref (a 0), .int p0, .long p1, .long p2] (fun U => va_P (dC, dI) vwCl (wX cI cJ cZ a kd lo hi vl nd so fr tg gn nr mo ma fa sv sd se sh) U.heap ∧ va_K (dC, dI) vwCl (tA cI cJ cZ) U)) (vp_Si (fun r => r = x_faultOfDial nd p0 p1 p2)) 0 0 (fun _ => False) := by
  refine Met.ofW (cc := cX2_faultOfDial) (maxL := 6) (ret := (some .int)) (by decide) rfl ?_
  intro p e s m args below meth c s₁ B hml hv
  obtain ⟨rfl, hP, hK⟩ := hv
  have hx := B.exec
  have hb := B.bytes
  have hr := B.returns
  have hts := atoms_spec (ws := wsX2_faultOfDial) B.pre
  have hown : s.vm.findClass RX2 = some m.cls := findClass_of_methodNamed B.named
  have hlocks := B.notSynchronized
  have h_inX2 : ∀ w ∈ wsX20, w ∈ wsX2_faultOfDial := fun _ h => List.mem_cons_of_mem _ (List.mem_append_right _ h)
  have k_0 := hts (.fieldLink RX2 51 "DetentCabinet" "dialCount" "I") (by decide +kernel)
  have hl := lv_entry ([.ref (a 0), .int p0, .long p1, .long p2]) (n := 6) (Nat.le_of_ble_eq_true rfl)
  rw [lg_entry_eq]
  generalize (lg_sl ([.ref (a 0), .int p0, .long p1, .long p2]) ++ List.replicate (6 - (lg_sl ([.ref (a 0), .int p0, .long p1, .long p2])).length) Slot.unset).toArray = ls at hl ⊢
  have hl : lv_has ls 6 [(0, .ref (a 0)), (1, .int p0), (2, .long p1), (4, .long p2)] := hl
  refine lv_iload_n hx hb dX2_faultOfDial_0 rfl (lv_at hl 1 rfl) ?_
  refine lv_if_lt (tgt := 9) hx hb dX2_faultOfDial_1 (by decide) (fun c_1 => ?_) (fun c_1 => ?_)
  · skip
    refine lv_iconst (v := 2) hx hb dX2_faultOfDial_9 (by decide) ?_
    exact W.iret (v := (2 : Int32)) hx hb hr (fun t ht hW => ⟨_, rfl, (by unfold x_faultOfDial; rw [if_pos c_1]), ht⟩) (fun _ h => by cases h) dX2_faultOfDial_10
  · skip
    refine lv_iload_n hx hb dX2_faultOfDial_4 rfl (lv_at hl 1 rfl) ?_
    refine lv_iconst (v := 3) hx hb dX2_faultOfDial_5 (by decide) ?_
    refine lv_icmp_le (tgt := 11) hx hb dX2_faultOfDial_6 (by decide) (fun c_2 => ?_) (fun c_2 => ?_)
    · skip
      refine lv_aload_n hx hb dX2_faultOfDial_11 rfl (lv_at hl 0 rfl) ?_
      refine va_get (D := (dC, dI)) (ci := 1) (v := .int nd) (C := RX2) (T := TX2) (N := 14) hx hb hts h_inX2 hown hK hP 0 rfl rfl 4 (by decide) k_0 (fun _ h9 => h9) rfl dX2_faultOfDial_12 ?_
      refine lv_bipush (v := 16) hx hb dX2_faultOfDial_15 (by decide) ?_
      refine lv_icmp_lt (tgt := 22) hx hb dX2_faultOfDial_17 (by decide) (fun c_3 => ?_) (fun c_3 => ?_)
      · skip
        refine lv_iload_n hx hb dX2_faultOfDial_22 rfl (lv_at hl 1 rfl) ?_
        refine lv_lload_n hx hb dX2_faultOfDial_23 rfl (lv_at hl 2 rfl) ?_
        refine cs_i (W.runS (As := [.int p0, .long p1]) (rest := []) ⟨hx, hb, hml, hown, hts⟩ (c_X0_isOfKind l p0 p1 ) (va_cwS 2 hts gX2_faultOfDial_X0_isOfKind rfl rfl rfl (by decide +kernel) ⟨Nat.le_of_ble_eq_true rfl, Nat.le_of_ble_eq_true rfl⟩) fb_s rfl rfl hl.1 rfl (lv_room (Nat.le_of_ble_eq_true rfl)) dX2_faultOfDial_24 ⟨Nat.zero_le _, Nat.zero_le _⟩) ?_
        refine lv_if_eq (tgt := 39) hx hb dX2_faultOfDial_27 (by decide) (fun c_4 => ?_) (fun c_4 => ?_)
        · skip
          refine lv_iconst (v := 3) hx hb dX2_faultOfDial_39 (by decide) ?_
          exact W.iret (v := (3 : Int32)) hx hb hr (fun t ht hW => ⟨_, rfl, (by unfold x_faultOfDial; rw [if_neg c_1, if_pos c_2, if_pos c_3, if_pos c_4]), ht⟩) (fun _ h => by cases h) dX2_faultOfDial_40
        · skip
          refine lv_iload_n hx hb dX2_faultOfDial_30 rfl (lv_at hl 1 rfl) ?_
          refine lv_lload hx hb dX2_faultOfDial_31 (lv_at hl 3 rfl) ?_
          refine cs_i (W.runS (As := [.int p0, .long p2]) (rest := []) ⟨hx, hb, hml, hown, hts⟩ (c_X0_isOfKind l p0 p2 ) (va_cwS 2 hts gX2_faultOfDial_X0_isOfKind rfl rfl rfl (by decide +kernel) ⟨Nat.le_of_ble_eq_true rfl, Nat.le_of_ble_eq_true rfl⟩) fb_s rfl rfl hl.1 rfl (lv_room (Nat.le_of_ble_eq_true rfl)) dX2_faultOfDial_33 ⟨Nat.zero_le _, Nat.zero_le _⟩) ?_
          refine lv_if_ne (tgt := 41) hx hb dX2_faultOfDial_36 (by decide) (fun c_5 => ?_) (fun c_5 => ?_)
          · skip
            refine lv_iload_n hx hb dX2_faultOfDial_41 rfl (lv_at hl 1 rfl) ?_
            refine lv_lload_n hx hb dX2_faultOfDial_42 rfl (lv_at hl 2 rfl) ?_
            refine lv_lload hx hb dX2_faultOfDial_43 (lv_at hl 3 rfl) ?_
            refine cs_i (W.runS (As := [.int p0, .long p1, .long p2]) (rest := []) ⟨hx, hb, hml, hown, hts⟩ (c_X0_compared l p0 p1 p2 ) (va_cwS 3 hts gX2_faultOfDial_X0_compared rfl rfl rfl (by decide +kernel) ⟨Nat.le_of_ble_eq_true rfl, Nat.le_of_ble_eq_true rfl⟩) fb_s rfl rfl hl.1 rfl (lv_room (Nat.le_of_ble_eq_true rfl)) dX2_faultOfDial_45 ⟨Nat.zero_le _, Nat.zero_le _⟩) ?_
            refine lv_if_le (tgt := 55) hx hb dX2_faultOfDial_48 (by decide) (fun c_6 => ?_) (fun c_6 => ?_)
            · skip
              refine lv_iconst (v := 0) hx hb dX2_faultOfDial_55 (by decide) ?_
              exact W.iret (v := (0 : Int32)) hx hb hr (fun t ht hW => ⟨_, rfl, (by unfold x_faultOfDial; rw [if_neg c_1, if_pos c_2, if_pos c_3, if_neg c_4, if_neg c_5, if_pos c_6]), ht⟩) (fun _ h => by cases h) dX2_faultOfDial_56
            · skip
              refine lv_iconst (v := 4) hx hb dX2_faultOfDial_51 (by decide) ?_
              refine lv_goto (tgt := 56) hx hb dX2_faultOfDial_52 (by decide) ?_
              exact W.iret (v := (4 : Int32)) hx hb hr (fun t ht hW => ⟨_, rfl, (by unfold x_faultOfDial; rw [if_neg c_1, if_pos c_2, if_pos c_3, if_neg c_4, if_neg c_5, if_neg c_6]), ht⟩) (fun _ h => by cases h) dX2_faultOfDial_56
          · skip
            refine lv_iconst (v := 3) hx hb dX2_faultOfDial_39 (by decide) ?_
            exact W.iret (v := (3 : Int32)) hx hb hr (fun t ht hW => ⟨_, rfl, (by unfold x_faultOfDial; rw [if_neg c_1, if_pos c_2, if_pos c_3, if_neg c_4, if_pos c_5]), ht⟩) (fun _ h => by cases h) dX2_faultOfDial_40
      · skip
        refine lv_iconst (v := 5) hx hb dX2_faultOfDial_20 (by decide) ?_
        exact W.iret (v := (5 : Int32)) hx hb hr (fun t ht hW => ⟨_, rfl, (by unfold x_faultOfDial; rw [if_neg c_1, if_pos c_2, if_neg c_3]), ht⟩) (fun _ h => by cases h) dX2_faultOfDial_21
    · skip
      refine lv_iconst (v := 2) hx hb dX2_faultOfDial_9 (by decide) ?_
      exact W.iret (v := (2 : Int32)) hx hb hr (fun t ht hW => ⟨_, rfl, (by unfold x_faultOfDial; rw [if_neg c_1, if_neg c_2]), ht⟩) (fun _ h => by cases h) dX2_faultOfDial_10
def x_faultOfPair (kd : Nat → Int32) (p0 : Int32) (p1 : Int32) (p2 : Int32) : Int32 :=
  if p1 = p2 then (6 : Int32)
  else if (kd p1.toNatClampNeg) = (kd p2.toNatClampNeg) then (if p0 = (2 : Int32) then (if (n_isReal (kd p1.toNatClampNeg)) = 0 then (2 : Int32)
        else (0 : Int32))
      else (0 : Int32))
    else (6 : Int32)
set_option maxHeartbeats 4000000 in
set_option maxRecDepth 100000 in
theorem c_X2_faultOfPair (l : Launch) (dC : Nat → ClassId) (dI : Nat → Nat → Nat) (cI cJ cZ : ClassId) (a : Nat → Nat) (kd : Nat → Int32) (lo : Nat → Int64) (hi : Nat → Int64) (vl : Nat → Int64) (nd : Int32) (so : Nat → Int32) (fr : Nat → Int32) (tg : Nat → Int32) (gn : Nat → Int32) (nr : Int32) (mo : Int32) (ma : Int32) (fa : Int32) (sv : Nat → Int64) (sd : Nat → Int32) (se : Int32) (sh : Int32) (p0 : Int32) (p1 : Int32) (p2 : Int32) (hf : vp_in p1 16) (ht : vp_in p2 16) : Met l yX2_faultOfPair wsX2_faultOfPair ({ frames := 1, cells := 0, slots := 0, locals := 20 }) (va_Pc [.ref (a 0), .int p0, .int p1, .int p2] (fun U => va_P (dC, dI) vwCl (wX cI cJ cZ a kd lo hi vl nd so fr tg gn nr mo ma fa sv sd se sh) U.heap ∧ va_K (dC, dI) vwCl (tA cI cJ cZ) U)) (vp_Si (fun r => r = x_faultOfPair kd p0 p1 p2)) 0 0 (fun _ => False) := by
  refine Met.ofW (cc := cX2_faultOfPair) (maxL := 4) (ret := (some .int)) (by decide) rfl ?_
  intro p e s m args below meth c s₁ B hml hv
  obtain ⟨rfl, hP, hK⟩ := hv
  have hx := B.exec
  have hb := B.bytes
  have hr := B.returns
  have hts := atoms_spec (ws := wsX2_faultOfPair) B.pre
  have hown : s.vm.findClass RX2 = some m.cls := findClass_of_methodNamed B.named
  have hlocks := B.notSynchronized
  have h_inX2 : ∀ w ∈ wsX20, w ∈ wsX2_faultOfPair := fun _ h => List.mem_cons_of_mem _ (List.mem_append_right _ h)
  have k_0 := hts (.fieldLink RX2 9 "DetentCabinet" "kinds" "[I") (by decide +kernel)
  have hl := lv_entry ([.ref (a 0), .int p0, .int p1, .int p2]) (n := 4) (Nat.le_of_ble_eq_true rfl)
  rw [lg_entry_eq]
  generalize (lg_sl ([.ref (a 0), .int p0, .int p1, .int p2]) ++ List.replicate (4 - (lg_sl ([.ref (a 0), .int p0, .int p1, .int p2])).length) Slot.unset).toArray = ls at hl ⊢
  have hl : lv_has ls 4 [(0, .ref (a 0)), (1, .int p0), (2, .int p1), (3, .int p2)] := hl
  refine lv_iload_n hx hb dX2_faultOfPair_0 rfl (lv_at hl 2 rfl) ?_
  refine lv_iload_n hx hb dX2_faultOfPair_1 rfl (lv_at hl 3 rfl) ?_
  refine lv_icmp_eq (tgt := 20) hx hb dX2_faultOfPair_2 (by decide) (fun c_1 => ?_) (fun c_1 => ?_)
  · skip
    refine lv_bipush (v := 6) hx hb dX2_faultOfPair_20 (by decide) ?_
    exact W.iret (v := (6 : Int32)) hx hb hr (fun t ht hW => ⟨_, rfl, (by unfold x_faultOfPair; rw [if_pos c_1]), ht⟩) (fun _ h => by cases h) dX2_faultOfPair_22
  · skip
    refine lv_aload_n hx hb dX2_faultOfPair_5 rfl (lv_at hl 0 rfl) ?_
    refine va_get (D := (dC, dI)) (ci := 1) (v := .ref (a 1)) (C := RX2) (T := TX2) (N := 14) hx hb hts h_inX2 hown hK hP 0 rfl rfl 0 (by decide) k_0 (fun _ h9 => h9) rfl dX2_faultOfPair_6 ?_
    refine lv_iload_n hx hb dX2_faultOfPair_9 rfl (lv_at hl 2 rfl) ?_
    refine va_iald hx hb hK hP 1 0 rfl rfl (by assumption) dX2_faultOfPair_10 ?_
    refine lv_aload_n hx hb dX2_faultOfPair_11 rfl (lv_at hl 0 rfl) ?_
    refine va_get (D := (dC, dI)) (ci := 1) (v := .ref (a 1)) (C := RX2) (T := TX2) (N := 14) hx hb hts h_inX2 hown hK hP 0 rfl rfl 0 (by decide) k_0 (fun _ h9 => h9) rfl dX2_faultOfPair_12 ?_
    refine lv_iload_n hx hb dX2_faultOfPair_15 rfl (lv_at hl 3 rfl) ?_
    refine va_iald hx hb hK hP 1 0 rfl rfl (by assumption) dX2_faultOfPair_16 ?_
    refine lv_icmp_eq (tgt := 23) hx hb dX2_faultOfPair_17 (by decide) (fun c_2 => ?_) (fun c_2 => ?_)
    · skip
      refine lv_iload_n hx hb dX2_faultOfPair_23 rfl (lv_at hl 1 rfl) ?_
      refine lv_iconst (v := 2) hx hb dX2_faultOfPair_24 (by decide) ?_
      refine lv_icmp_ne (tgt := 44) hx hb dX2_faultOfPair_25 (by decide) (fun c_3 => ?_) (fun c_3 => ?_)
      · skip
        refine lv_iconst (v := 0) hx hb dX2_faultOfPair_44 (by decide) ?_
        exact W.iret (v := (0 : Int32)) hx hb hr (fun t ht hW => ⟨_, rfl, (by unfold x_faultOfPair; rw [if_neg c_1, if_pos c_2, if_neg c_3]), ht⟩) (fun _ h => by cases h) dX2_faultOfPair_45
      · skip
        refine lv_aload_n hx hb dX2_faultOfPair_28 rfl (lv_at hl 0 rfl) ?_
        refine va_get (D := (dC, dI)) (ci := 1) (v := .ref (a 1)) (C := RX2) (T := TX2) (N := 14) hx hb hts h_inX2 hown hK hP 0 rfl rfl 0 (by decide) k_0 (fun _ h9 => h9) rfl dX2_faultOfPair_29 ?_
        refine lv_iload_n hx hb dX2_faultOfPair_32 rfl (lv_at hl 2 rfl) ?_
        refine va_iald hx hb hK hP 1 0 rfl rfl (by assumption) dX2_faultOfPair_33 ?_
        refine cs_i (W.runS (As := [.int (kd p1.toNatClampNeg)]) (rest := []) ⟨hx, hb, hml, hown, hts⟩ (c_X0_isReal l (kd p1.toNatClampNeg) ) (va_cwS 1 hts gX2_faultOfPair_X0_isReal rfl rfl rfl (by decide +kernel) ⟨Nat.le_of_ble_eq_true rfl, Nat.le_of_ble_eq_true rfl⟩) fb_s rfl rfl hl.1 rfl (lv_room (Nat.le_of_ble_eq_true rfl)) dX2_faultOfPair_34 ⟨Nat.zero_le _, Nat.zero_le _⟩) ?_
        refine lv_if_ne (tgt := 44) hx hb dX2_faultOfPair_37 (by decide) (fun c_4 => ?_) (fun c_4 => ?_)
        · skip
          refine lv_iconst (v := 0) hx hb dX2_faultOfPair_44 (by decide) ?_
          exact W.iret (v := (0 : Int32)) hx hb hr (fun t ht hW => ⟨_, rfl, (by unfold x_faultOfPair; rw [if_neg c_1, if_pos c_2, if_pos c_3, if_neg c_4]), ht⟩) (fun _ h => by cases h) dX2_faultOfPair_45
        · skip
          refine lv_iconst (v := 2) hx hb dX2_faultOfPair_40 (by decide) ?_
          refine lv_goto (tgt := 45) hx hb dX2_faultOfPair_41 (by decide) ?_
          exact W.iret (v := (2 : Int32)) hx hb hr (fun t ht hW => ⟨_, rfl, (by unfold x_faultOfPair; rw [if_neg c_1, if_pos c_2, if_pos c_3, if_pos c_4]), ht⟩) (fun _ h => by cases h) dX2_faultOfPair_45
    · skip
      refine lv_bipush (v := 6) hx hb dX2_faultOfPair_20 (by decide) ?_
      exact W.iret (v := (6 : Int32)) hx hb hr (fun t ht hW => ⟨_, rfl, (by unfold x_faultOfPair; rw [if_neg c_1, if_neg c_2]), ht⟩) (fun _ h => by cases h) dX2_faultOfPair_22
def x_faultOfRod (kd : Nat → Int32) (nd : Int32) (nr : Int32) (p0 : Int32) (p1 : Int32) (p2 : Int32) : Int32 :=
  if (x_isSort p0) = 0 then (2 : Int32)
  else if (x_isDial nd p1) = 0 then (1 : Int32)
    else if (x_isDial nd p2) = 0 then (1 : Int32)
      else if (x_faultOfPair kd p0 p1 p2) = 0 then (if nr < (24 : Int32) then (0 : Int32)
          else (5 : Int32))
        else (x_faultOfPair kd p0 p1 p2)
set_option maxHeartbeats 4000000 in
set_option maxRecDepth 100000 in
theorem c_X2_faultOfRod (l : Launch) (dC : Nat → ClassId) (dI : Nat → Nat → Nat) (cI cJ cZ : ClassId) (a : Nat → Nat) (kd : Nat → Int32) (lo : Nat → Int64) (hi : Nat → Int64) (vl : Nat → Int64) (nd : Int32) (so : Nat → Int32) (fr : Nat → Int32) (tg : Nat → Int32) (gn : Nat → Int32) (nr : Int32) (mo : Int32) (ma : Int32) (fa : Int32) (sv : Nat → Int64) (sd : Nat → Int32) (se : Int32) (sh : Int32) (p0 : Int32) (p1 : Int32) (p2 : Int32) (hn : nd ≤ 16) : Met l yX2_faultOfRod wsX2_faultOfRod ({ frames := 2, cells := 0, slots := 0, locals := 43 }) (va_Pc [.ref (a 0), .int p0, .int p1, .int p2] (fun U => va_P (dC, dI) vwCl (wX cI cJ cZ a kd lo hi vl nd so fr tg gn nr mo ma fa sv sd se sh) U.heap ∧ va_K (dC, dI) vwCl (tA cI cJ cZ) U)) (vp_Si (fun r => r = x_faultOfRod kd nd nr p0 p1 p2)) 0 0 (fun _ => False) := by
  refine Met.ofW (cc := cX2_faultOfRod) (maxL := 5) (ret := (some .int)) (by decide) rfl ?_
  intro p e s m args below meth c s₁ B hml hv
  obtain ⟨rfl, hP, hK⟩ := hv
  have hx := B.exec
  have hb := B.bytes
  have hr := B.returns
  have hts := atoms_spec (ws := wsX2_faultOfRod) B.pre
  have hown : s.vm.findClass RX2 = some m.cls := findClass_of_methodNamed B.named
  have hlocks := B.notSynchronized
  have h_inX2 : ∀ w ∈ wsX20, w ∈ wsX2_faultOfRod := fun _ h => List.mem_cons_of_mem _ (List.mem_append_right _ h)
  have k_0 := hts (.fieldLink RX2 64 "DetentCabinet" "rodCount" "I") (by decide +kernel)
  have hl := lv_entry ([.ref (a 0), .int p0, .int p1, .int p2]) (n := 5) (Nat.le_of_ble_eq_true rfl)
  rw [lg_entry_eq]
  generalize (lg_sl ([.ref (a 0), .int p0, .int p1, .int p2]) ++ List.replicate (5 - (lg_sl ([.ref (a 0), .int p0, .int p1, .int p2])).length) Slot.unset).toArray = ls at hl ⊢
  have hl : lv_has ls 5 [(0, .ref (a 0)), (1, .int p0), (2, .int p1), (3, .int p2)] := hl
  refine lv_iload_n hx hb dX2_faultOfRod_0 rfl (lv_at hl 1 rfl) ?_
  refine cs_i (W.runS (As := [.int p0]) (rest := []) ⟨hx, hb, hml, hown, hts⟩ (c_X2_isSort l p0 ) (va_cwS 1 hts gX2_faultOfRod_X2_isSort rfl rfl rfl (by decide +kernel) ⟨Nat.le_of_ble_eq_true rfl, Nat.le_of_ble_eq_true rfl⟩) fb_s rfl rfl hl.1 rfl (lv_room (Nat.le_of_ble_eq_true rfl)) dX2_faultOfRod_1 ⟨Nat.zero_le _, Nat.zero_le _⟩) ?_
  refine lv_if_ne (tgt := 9) hx hb dX2_faultOfRod_4 (by decide) (fun c_1 => ?_) (fun c_1 => ?_)
  · skip
    refine lv_aload_n hx hb dX2_faultOfRod_9 rfl (lv_at hl 0 rfl) ?_
    refine lv_iload_n hx hb dX2_faultOfRod_10 rfl (lv_at hl 2 rfl) ?_
    refine cs_i (W.runV (As := [.int p1]) (rest := []) ⟨hx, hb, hml, hown, hts⟩ (c_X2_isDial l dC dI cI cJ cZ a kd lo hi vl nd so fr tg gn nr mo ma fa sv sd se sh p1 ) (cwV 1 hts gX2_faultOfRod_X2_isDial rfl rfl rfl (by decide +kernel) ⟨Nat.le_of_ble_eq_true rfl, Nat.le_of_ble_eq_true rfl⟩) (fb_v hK hP (va_recv hK hP (ci := 1) (q0 := 0) rfl rfl)) rfl rfl hl.1 rfl (lv_room (Nat.le_of_ble_eq_true rfl)) dX2_faultOfRod_11 ⟨Nat.zero_le _, Nat.zero_le _⟩) ?_
    refine lv_if_eq (tgt := 25) hx hb dX2_faultOfRod_14 (by decide) (fun c_2 => ?_) (fun c_2 => ?_)
    · skip
      refine lv_iconst (v := 1) hx hb dX2_faultOfRod_25 (by decide) ?_
      exact W.iret (v := (1 : Int32)) hx hb hr (fun t ht hW => ⟨_, rfl, (by unfold x_faultOfRod; rw [if_neg c_1, if_pos c_2]), ht⟩) (fun _ h => by cases h) dX2_faultOfRod_26
    · skip
      refine lv_aload_n hx hb dX2_faultOfRod_17 rfl (lv_at hl 0 rfl) ?_
      refine lv_iload_n hx hb dX2_faultOfRod_18 rfl (lv_at hl 3 rfl) ?_
      refine cs_i (W.runV (As := [.int p2]) (rest := []) ⟨hx, hb, hml, hown, hts⟩ (c_X2_isDial l dC dI cI cJ cZ a kd lo hi vl nd so fr tg gn nr mo ma fa sv sd se sh p2 ) (cwV 1 hts gX2_faultOfRod_X2_isDial rfl rfl rfl (by decide +kernel) ⟨Nat.le_of_ble_eq_true rfl, Nat.le_of_ble_eq_true rfl⟩) (fb_v hK hP (va_recv hK hP (ci := 1) (q0 := 0) rfl rfl)) rfl rfl hl.1 rfl (lv_room (Nat.le_of_ble_eq_true rfl)) dX2_faultOfRod_19 ⟨Nat.zero_le _, Nat.zero_le _⟩) ?_
      refine lv_if_ne (tgt := 27) hx hb dX2_faultOfRod_22 (by decide) (fun c_3 => ?_) (fun c_3 => ?_)
      · skip
        refine lv_aload_n hx hb dX2_faultOfRod_27 rfl (lv_at hl 0 rfl) ?_
        refine lv_iload_n hx hb dX2_faultOfRod_28 rfl (lv_at hl 1 rfl) ?_
        refine lv_iload_n hx hb dX2_faultOfRod_29 rfl (lv_at hl 2 rfl) ?_
        refine lv_iload_n hx hb dX2_faultOfRod_30 rfl (lv_at hl 3 rfl) ?_
        refine cs_i (W.runV (As := [.int p0, .int p1, .int p2]) (rest := []) ⟨hx, hb, hml, hown, hts⟩ (c_X2_faultOfPair l dC dI cI cJ cZ a kd lo hi vl nd so fr tg gn nr mo ma fa sv sd se sh p0 p1 p2 (in_d hn (by assumption)) (in_d hn (by assumption))) (cwV 3 hts gX2_faultOfRod_X2_faultOfPair rfl rfl rfl (by decide +kernel) ⟨Nat.le_of_ble_eq_true rfl, Nat.le_of_ble_eq_true rfl⟩) (fb_v hK hP (va_recv hK hP (ci := 1) (q0 := 0) rfl rfl)) rfl rfl hl.1 rfl (lv_room (Nat.le_of_ble_eq_true rfl)) dX2_faultOfRod_31 ⟨Nat.zero_le _, Nat.zero_le _⟩) ?_
        refine lv_istore (lv' := [(4, .int (x_faultOfPair kd p0 p1 p2)), (0, .ref (a 0)), (1, .int p0), (2, .int p1), (3, .int p2)]) hx hb dX2_faultOfRod_34 hl (by decide) rfl (fun ls hl => ?_)
        refine lv_iload hx hb dX2_faultOfRod_36 (lv_at hl 0 rfl) ?_
        refine lv_if_eq (tgt := 44) hx hb dX2_faultOfRod_38 (by decide) (fun c_4 => ?_) (fun c_4 => ?_)
        · skip
          refine lv_aload_n hx hb dX2_faultOfRod_44 rfl (lv_at hl 1 rfl) ?_
          refine va_get (D := (dC, dI)) (ci := 1) (v := .int nr) (C := RX2) (T := TX2) (N := 14) hx hb hts h_inX2 hown hK hP 0 rfl rfl 9 (by decide) k_0 (fun _ h9 => h9) rfl dX2_faultOfRod_45 ?_
          refine lv_bipush (v := 24) hx hb dX2_faultOfRod_48 (by decide) ?_
          refine lv_icmp_lt (tgt := 57) hx hb dX2_faultOfRod_50 (by decide) (fun c_5 => ?_) (fun c_5 => ?_)
          · skip
            refine lv_iconst (v := 0) hx hb dX2_faultOfRod_57 (by decide) ?_
            exact W.iret (v := (0 : Int32)) hx hb hr (fun t ht hW => ⟨_, rfl, (by unfold x_faultOfRod; rw [if_neg c_1, if_neg c_2, if_neg c_3, if_pos c_4, if_pos c_5]), ht⟩) (fun _ h => by cases h) dX2_faultOfRod_58
          · skip
            refine lv_iconst (v := 5) hx hb dX2_faultOfRod_53 (by decide) ?_
            refine lv_goto (tgt := 58) hx hb dX2_faultOfRod_54 (by decide) ?_
            exact W.iret (v := (5 : Int32)) hx hb hr (fun t ht hW => ⟨_, rfl, (by unfold x_faultOfRod; rw [if_neg c_1, if_neg c_2, if_neg c_3, if_pos c_4, if_neg c_5]), ht⟩) (fun _ h => by cases h) dX2_faultOfRod_58
        · skip
          refine lv_iload hx hb dX2_faultOfRod_41 (lv_at hl 0 rfl) ?_
          exact W.iret (v := (x_faultOfPair kd p0 p1 p2)) hx hb hr (fun t ht hW => ⟨_, rfl, (by unfold x_faultOfRod; rw [if_neg c_1, if_neg c_2, if_neg c_3, if_neg c_4]), ht⟩) (fun _ h => by cases h) dX2_faultOfRod_43
      · skip
        refine lv_iconst (v := 1) hx hb dX2_faultOfRod_25 (by decide) ?_
        exact W.iret (v := (1 : Int32)) hx hb hr (fun t ht hW => ⟨_, rfl, (by unfold x_faultOfRod; rw [if_neg c_1, if_neg c_2, if_pos c_3]), ht⟩) (fun _ h => by cases h) dX2_faultOfRod_26
  · skip
    refine lv_iconst (v := 2) hx hb dX2_faultOfRod_7 (by decide) ?_
    exact W.iret (v := (2 : Int32)) hx hb hr (fun t ht hW => ⟨_, rfl, (by unfold x_faultOfRod; rw [if_pos c_1]), ht⟩) (fun _ h => by cases h) dX2_faultOfRod_8
def x_faultOfSet (kd : Nat → Int32) (nd : Int32) (p0 : Int32) (p1 : Int64) : Int32 :=
  if (x_isDial nd p0) = 0 then (1 : Int32)
  else if (n_isOfKind (kd p0.toNatClampNeg) p1) = 0 then (3 : Int32)
    else (0 : Int32)
set_option maxHeartbeats 4000000 in
set_option maxRecDepth 100000 in
theorem c_X2_faultOfSet (l : Launch) (dC : Nat → ClassId) (dI : Nat → Nat → Nat) (cI cJ cZ : ClassId) (a : Nat → Nat) (kd : Nat → Int32) (lo : Nat → Int64) (hi : Nat → Int64) (vl : Nat → Int64) (nd : Int32) (so : Nat → Int32) (fr : Nat → Int32) (tg : Nat → Int32) (gn : Nat → Int32) (nr : Int32) (mo : Int32) (ma : Int32) (fa : Int32) (sv : Nat → Int64) (sd : Nat → Int32) (se : Int32) (sh : Int32) (p0 : Int32) (p1 : Int64) (hn : nd ≤ 16) : Met l yX2_faultOfSet wsX2_faultOfSet ({ frames := 1, cells := 0, slots := 0, locals := 23 }) (va_Pc [.ref (a 0), .int p0, .long p1] (fun U => va_P (dC, dI) vwCl (wX cI cJ cZ a kd lo hi vl nd so fr tg gn nr mo ma fa sv sd se sh) U.heap ∧ va_K (dC, dI) vwCl (tA cI cJ cZ) U)) (vp_Si (fun r => r = x_faultOfSet kd nd p0 p1)) 0 0 (fun _ => False) := by
  refine Met.ofW (cc := cX2_faultOfSet) (maxL := 4) (ret := (some .int)) (by decide) rfl ?_
  intro p e s m args below meth c s₁ B hml hv
  obtain ⟨rfl, hP, hK⟩ := hv
  have hx := B.exec
  have hb := B.bytes
  have hr := B.returns
  have hts := atoms_spec (ws := wsX2_faultOfSet) B.pre
  have hown : s.vm.findClass RX2 = some m.cls := findClass_of_methodNamed B.named
  have hlocks := B.notSynchronized
  have h_inX2 : ∀ w ∈ wsX20, w ∈ wsX2_faultOfSet := fun _ h => List.mem_cons_of_mem _ (List.mem_append_right _ h)
  have k_0 := hts (.fieldLink RX2 9 "DetentCabinet" "kinds" "[I") (by decide +kernel)
  have hl := lv_entry ([.ref (a 0), .int p0, .long p1]) (n := 4) (Nat.le_of_ble_eq_true rfl)
  rw [lg_entry_eq]
  generalize (lg_sl ([.ref (a 0), .int p0, .long p1]) ++ List.replicate (4 - (lg_sl ([.ref (a 0), .int p0, .long p1])).length) Slot.unset).toArray = ls at hl ⊢
  have hl : lv_has ls 4 [(0, .ref (a 0)), (1, .int p0), (2, .long p1)] := hl
  refine lv_aload_n hx hb dX2_faultOfSet_0 rfl (lv_at hl 0 rfl) ?_
  refine lv_iload_n hx hb dX2_faultOfSet_1 rfl (lv_at hl 1 rfl) ?_
  refine cs_i (W.runV (As := [.int p0]) (rest := []) ⟨hx, hb, hml, hown, hts⟩ (c_X2_isDial l dC dI cI cJ cZ a kd lo hi vl nd so fr tg gn nr mo ma fa sv sd se sh p0 ) (cwV 1 hts gX2_faultOfSet_X2_isDial rfl rfl rfl (by decide +kernel) ⟨Nat.le_of_ble_eq_true rfl, Nat.le_of_ble_eq_true rfl⟩) (fb_v hK hP (va_recv hK hP (ci := 1) (q0 := 0) rfl rfl)) rfl rfl hl.1 rfl (lv_room (Nat.le_of_ble_eq_true rfl)) dX2_faultOfSet_2 ⟨Nat.zero_le _, Nat.zero_le _⟩) ?_
  refine lv_if_ne (tgt := 10) hx hb dX2_faultOfSet_5 (by decide) (fun c_1 => ?_) (fun c_1 => ?_)
  · skip
    refine lv_aload_n hx hb dX2_faultOfSet_10 rfl (lv_at hl 0 rfl) ?_
    refine va_get (D := (dC, dI)) (ci := 1) (v := .ref (a 1)) (C := RX2) (T := TX2) (N := 14) hx hb hts h_inX2 hown hK hP 0 rfl rfl 0 (by decide) k_0 (fun _ h9 => h9) rfl dX2_faultOfSet_11 ?_
    refine lv_iload_n hx hb dX2_faultOfSet_14 rfl (lv_at hl 1 rfl) ?_
    refine va_iald hx hb hK hP 1 0 rfl rfl (in_d hn (by assumption)) dX2_faultOfSet_15 ?_
    refine lv_lload_n hx hb dX2_faultOfSet_16 rfl (lv_at hl 2 rfl) ?_
    refine cs_i (W.runS (As := [.int (kd p0.toNatClampNeg), .long p1]) (rest := []) ⟨hx, hb, hml, hown, hts⟩ (c_X0_isOfKind l (kd p0.toNatClampNeg) p1 ) (va_cwS 2 hts gX2_faultOfSet_X0_isOfKind rfl rfl rfl (by decide +kernel) ⟨Nat.le_of_ble_eq_true rfl, Nat.le_of_ble_eq_true rfl⟩) fb_s rfl rfl hl.1 rfl (lv_room (Nat.le_of_ble_eq_true rfl)) dX2_faultOfSet_17 ⟨Nat.zero_le _, Nat.zero_le _⟩) ?_
    refine lv_if_eq (tgt := 27) hx hb dX2_faultOfSet_20 (by decide) (fun c_2 => ?_) (fun c_2 => ?_)
    · skip
      refine lv_iconst (v := 3) hx hb dX2_faultOfSet_27 (by decide) ?_
      exact W.iret (v := (3 : Int32)) hx hb hr (fun t ht hW => ⟨_, rfl, (by unfold x_faultOfSet; rw [if_neg c_1, if_pos c_2]), ht⟩) (fun _ h => by cases h) dX2_faultOfSet_28
    · skip
      refine lv_iconst (v := 0) hx hb dX2_faultOfSet_23 (by decide) ?_
      refine lv_goto (tgt := 28) hx hb dX2_faultOfSet_24 (by decide) ?_
      exact W.iret (v := (0 : Int32)) hx hb hr (fun t ht hW => ⟨_, rfl, (by unfold x_faultOfSet; rw [if_neg c_1, if_neg c_2]), ht⟩) (fun _ h => by cases h) dX2_faultOfSet_28
  · skip
    refine lv_iconst (v := 1) hx hb dX2_faultOfSet_8 (by decide) ?_
    exact W.iret (v := (1 : Int32)) hx hb hr (fun t ht hW => ⟨_, rfl, (by unfold x_faultOfSet; rw [if_pos c_1]), ht⟩) (fun _ h => by cases h) dX2_faultOfSet_9
def x_faultOfTurn (kd : Nat → Int32) (nd : Int32) (p0 : Int32) (p1 : Int32) : Int32 :=
  if (x_isDial nd p0) = 0 then (1 : Int32)
  else if (n_isReal (kd p0.toNatClampNeg)) = 0 then (if p1 < 0 then (2 : Int32)
      else if p1 ≤ (0 : Int32) then (0 : Int32)
        else (2 : Int32))
    else if p1 < 0 then (2 : Int32)
      else if p1 ≤ (4 : Int32) then (0 : Int32)
        else (2 : Int32)
set_option maxHeartbeats 4000000 in
set_option maxRecDepth 100000 in
theorem c_X2_faultOfTurn (l : Launch) (dC : Nat → ClassId) (dI : Nat → Nat → Nat) (cI cJ cZ : ClassId) (a : Nat → Nat) (kd : Nat → Int32) (lo : Nat → Int64) (hi : Nat → Int64) (vl : Nat → Int64) (nd : Int32) (so : Nat → Int32) (fr : Nat → Int32) (tg : Nat → Int32) (gn : Nat → Int32) (nr : Int32) (mo : Int32) (ma : Int32) (fa : Int32) (sv : Nat → Int64) (sd : Nat → Int32) (se : Int32) (sh : Int32) (p0 : Int32) (p1 : Int32) (hn : nd ≤ 16) : Met l yX2_faultOfTurn wsX2_faultOfTurn ({ frames := 1, cells := 0, slots := 0, locals := 21 }) (va_Pc [.ref (a 0), .int p0, .int p1] (fun U => va_P (dC, dI) vwCl (wX cI cJ cZ a kd lo hi vl nd so fr tg gn nr mo ma fa sv sd se sh) U.heap ∧ va_K (dC, dI) vwCl (tA cI cJ cZ) U)) (vp_Si (fun r => r = x_faultOfTurn kd nd p0 p1)) 0 0 (fun _ => False) := by
  refine Met.ofW (cc := cX2_faultOfTurn) (maxL := 4) (ret := (some .int)) (by decide) rfl ?_
  intro p e s m args below meth c s₁ B hml hv
  obtain ⟨rfl, hP, hK⟩ := hv
  have hx := B.exec
  have hb := B.bytes
  have hr := B.returns
  have hts := atoms_spec (ws := wsX2_faultOfTurn) B.pre
  have hown : s.vm.findClass RX2 = some m.cls := findClass_of_methodNamed B.named
  have hlocks := B.notSynchronized
  have h_inX2 : ∀ w ∈ wsX20, w ∈ wsX2_faultOfTurn := fun _ h => List.mem_cons_of_mem _ (List.mem_append_right _ h)
  have k_0 := hts (.fieldLink RX2 9 "DetentCabinet" "kinds" "[I") (by decide +kernel)
  have hl := lv_entry ([.ref (a 0), .int p0, .int p1]) (n := 4) (Nat.le_of_ble_eq_true rfl)
  rw [lg_entry_eq]
  generalize (lg_sl ([.ref (a 0), .int p0, .int p1]) ++ List.replicate (4 - (lg_sl ([.ref (a 0), .int p0, .int p1])).length) Slot.unset).toArray = ls at hl ⊢
  have hl : lv_has ls 4 [(0, .ref (a 0)), (1, .int p0), (2, .int p1)] := hl
  refine lv_aload_n hx hb dX2_faultOfTurn_0 rfl (lv_at hl 0 rfl) ?_
  refine lv_iload_n hx hb dX2_faultOfTurn_1 rfl (lv_at hl 1 rfl) ?_
  refine cs_i (W.runV (As := [.int p0]) (rest := []) ⟨hx, hb, hml, hown, hts⟩ (c_X2_isDial l dC dI cI cJ cZ a kd lo hi vl nd so fr tg gn nr mo ma fa sv sd se sh p0 ) (cwV 1 hts gX2_faultOfTurn_X2_isDial rfl rfl rfl (by decide +kernel) ⟨Nat.le_of_ble_eq_true rfl, Nat.le_of_ble_eq_true rfl⟩) (fb_v hK hP (va_recv hK hP (ci := 1) (q0 := 0) rfl rfl)) rfl rfl hl.1 rfl (lv_room (Nat.le_of_ble_eq_true rfl)) dX2_faultOfTurn_2 ⟨Nat.zero_le _, Nat.zero_le _⟩) ?_
  refine lv_if_ne (tgt := 10) hx hb dX2_faultOfTurn_5 (by decide) (fun c_1 => ?_) (fun c_1 => ?_)
  · skip
    refine lv_aload_n hx hb dX2_faultOfTurn_10 rfl (lv_at hl 0 rfl) ?_
    refine va_get (D := (dC, dI)) (ci := 1) (v := .ref (a 1)) (C := RX2) (T := TX2) (N := 14) hx hb hts h_inX2 hown hK hP 0 rfl rfl 0 (by decide) k_0 (fun _ h9 => h9) rfl dX2_faultOfTurn_11 ?_
    refine lv_iload_n hx hb dX2_faultOfTurn_14 rfl (lv_at hl 1 rfl) ?_
    refine va_iald hx hb hK hP 1 0 rfl rfl (in_d hn (by assumption)) dX2_faultOfTurn_15 ?_
    refine cs_i (W.runS (As := [.int (kd p0.toNatClampNeg)]) (rest := []) ⟨hx, hb, hml, hown, hts⟩ (c_X0_isReal l (kd p0.toNatClampNeg) ) (va_cwS 1 hts gX2_faultOfTurn_X0_isReal rfl rfl rfl (by decide +kernel) ⟨Nat.le_of_ble_eq_true rfl, Nat.le_of_ble_eq_true rfl⟩) fb_s rfl rfl hl.1 rfl (lv_room (Nat.le_of_ble_eq_true rfl)) dX2_faultOfTurn_16 ⟨Nat.zero_le _, Nat.zero_le _⟩) ?_
    refine lv_if_eq (tgt := 26) hx hb dX2_faultOfTurn_19 (by decide) (fun c_2 => ?_) (fun c_2 => ?_)
    · skip
      refine lv_iconst (v := 0) hx hb dX2_faultOfTurn_26 (by decide) ?_
      refine lv_istore_n (lv' := [(3, .int (0 : Int32)), (0, .ref (a 0)), (1, .int p0), (2, .int p1)]) hx hb dX2_faultOfTurn_27 rfl hl (by decide) rfl (fun ls hl => ?_)
      refine lv_iload_n hx hb dX2_faultOfTurn_28 rfl (lv_at hl 3 rfl) ?_
      refine lv_if_lt (tgt := 37) hx hb dX2_faultOfTurn_29 (by decide) (fun c_3 => ?_) (fun c_3 => ?_)
      · skip
        refine lv_iconst (v := 2) hx hb dX2_faultOfTurn_37 (by decide) ?_
        refine lv_goto (tgt := 42) hx hb dX2_faultOfTurn_38 (by decide) ?_
        exact W.iret (v := (2 : Int32)) hx hb hr (fun t ht hW => ⟨_, rfl, (by unfold x_faultOfTurn; rw [if_neg c_1, if_pos c_2, if_pos c_3]), ht⟩) (fun _ h => by cases h) dX2_faultOfTurn_42
      · skip
        refine lv_iload_n hx hb dX2_faultOfTurn_32 rfl (lv_at hl 3 rfl) ?_
        refine lv_iload_n hx hb dX2_faultOfTurn_33 rfl (lv_at hl 0 rfl) ?_
        refine lv_icmp_le (tgt := 41) hx hb dX2_faultOfTurn_34 (by decide) (fun c_4 => ?_) (fun c_4 => ?_)
        · skip
          refine lv_iconst (v := 0) hx hb dX2_faultOfTurn_41 (by decide) ?_
          exact W.iret (v := (0 : Int32)) hx hb hr (fun t ht hW => ⟨_, rfl, (by unfold x_faultOfTurn; rw [if_neg c_1, if_pos c_2, if_neg c_3, if_pos c_4]), ht⟩) (fun _ h => by cases h) dX2_faultOfTurn_42
        · skip
          refine lv_iconst (v := 2) hx hb dX2_faultOfTurn_37 (by decide) ?_
          refine lv_goto (tgt := 42) hx hb dX2_faultOfTurn_38 (by decide) ?_
          exact W.iret (v := (2 : Int32)) hx hb hr (fun t ht hW => ⟨_, rfl, (by unfold x_faultOfTurn; rw [if_neg c_1, if_pos c_2, if_neg c_3, if_neg c_4]), ht⟩) (fun _ h => by cases h) dX2_faultOfTurn_42
    · skip
      refine lv_iconst (v := 4) hx hb dX2_faultOfTurn_22 (by decide) ?_
      refine lv_goto (tgt := 27) hx hb dX2_faultOfTurn_23 (by decide) ?_
      refine lv_istore_n (lv' := [(3, .int (4 : Int32)), (0, .ref (a 0)), (1, .int p0), (2, .int p1)]) hx hb dX2_faultOfTurn_27 rfl hl (by decide) rfl (fun ls hl => ?_)
      refine lv_iload_n hx hb dX2_faultOfTurn_28 rfl (lv_at hl 3 rfl) ?_
      refine lv_if_lt (tgt := 37) hx hb dX2_faultOfTurn_29 (by decide) (fun c_5 => ?_) (fun c_5 => ?_)
      · skip
        refine lv_iconst (v := 2) hx hb dX2_faultOfTurn_37 (by decide) ?_
        refine lv_goto (tgt := 42) hx hb dX2_faultOfTurn_38 (by decide) ?_
        exact W.iret (v := (2 : Int32)) hx hb hr (fun t ht hW => ⟨_, rfl, (by unfold x_faultOfTurn; rw [if_neg c_1, if_neg c_2, if_pos c_5]), ht⟩) (fun _ h => by cases h) dX2_faultOfTurn_42
      · skip
        refine lv_iload_n hx hb dX2_faultOfTurn_32 rfl (lv_at hl 3 rfl) ?_
        refine lv_iload_n hx hb dX2_faultOfTurn_33 rfl (lv_at hl 0 rfl) ?_
        refine lv_icmp_le (tgt := 41) hx hb dX2_faultOfTurn_34 (by decide) (fun c_6 => ?_) (fun c_6 => ?_)
        · skip
          refine lv_iconst (v := 0) hx hb dX2_faultOfTurn_41 (by decide) ?_
          exact W.iret (v := (0 : Int32)) hx hb hr (fun t ht hW => ⟨_, rfl, (by unfold x_faultOfTurn; rw [if_neg c_1, if_neg c_2, if_neg c_5, if_pos c_6]), ht⟩) (fun _ h => by cases h) dX2_faultOfTurn_42
        · skip
          refine lv_iconst (v := 2) hx hb dX2_faultOfTurn_37 (by decide) ?_
          refine lv_goto (tgt := 42) hx hb dX2_faultOfTurn_38 (by decide) ?_
          exact W.iret (v := (2 : Int32)) hx hb hr (fun t ht hW => ⟨_, rfl, (by unfold x_faultOfTurn; rw [if_neg c_1, if_neg c_2, if_neg c_5, if_neg c_6]), ht⟩) (fun _ h => by cases h) dX2_faultOfTurn_42
  · skip
    refine lv_iconst (v := 1) hx hb dX2_faultOfTurn_8 (by decide) ?_
    exact W.iret (v := (1 : Int32)) hx hb hr (fun t ht hW => ⟨_, rfl, (by unfold x_faultOfTurn; rw [if_pos c_1]), ht⟩) (fun _ h => by cases h) dX2_faultOfTurn_9
def x_faultOfTake (kd : Nat → Int32) (nd : Int32) (p0 : Int32) (p1 : Int32) (p2 : Int32) : Int32 :=
  if (x_isDial nd p0) = 0 then (1 : Int32)
  else if (x_isDial nd p1) = 0 then (1 : Int32)
    else if (x_isSort p2) = 0 then (2 : Int32)
      else (x_faultOfPair kd p2 p1 p0)
set_option maxHeartbeats 4000000 in
set_option maxRecDepth 100000 in
theorem c_X2_faultOfTake (l : Launch) (dC : Nat → ClassId) (dI : Nat → Nat → Nat) (cI cJ cZ : ClassId) (a : Nat → Nat) (kd : Nat → Int32) (lo : Nat → Int64) (hi : Nat → Int64) (vl : Nat → Int64) (nd : Int32) (so : Nat → Int32) (fr : Nat → Int32) (tg : Nat → Int32) (gn : Nat → Int32) (nr : Int32) (mo : Int32) (ma : Int32) (fa : Int32) (sv : Nat → Int64) (sd : Nat → Int32) (se : Int32) (sh : Int32) (p0 : Int32) (p1 : Int32) (p2 : Int32) (hn : nd ≤ 16) : Met l yX2_faultOfTake wsX2_faultOfTake ({ frames := 2, cells := 0, slots := 0, locals := 43 }) (va_Pc [.ref (a 0), .int p0, .int p1, .int p2] (fun U => va_P (dC, dI) vwCl (wX cI cJ cZ a kd lo hi vl nd so fr tg gn nr mo ma fa sv sd se sh) U.heap ∧ va_K (dC, dI) vwCl (tA cI cJ cZ) U)) (vp_Si (fun r => r = x_faultOfTake kd nd p0 p1 p2)) 0 0 (fun _ => False) := by
  refine Met.ofW (cc := cX2_faultOfTake) (maxL := 4) (ret := (some .int)) (by decide) rfl ?_
  intro p e s m args below meth c s₁ B hml hv
  obtain ⟨rfl, hP, hK⟩ := hv
  have hx := B.exec
  have hb := B.bytes
  have hr := B.returns
  have hts := atoms_spec (ws := wsX2_faultOfTake) B.pre
  have hown : s.vm.findClass RX2 = some m.cls := findClass_of_methodNamed B.named
  have hlocks := B.notSynchronized
  have hl := lv_entry ([.ref (a 0), .int p0, .int p1, .int p2]) (n := 4) (Nat.le_of_ble_eq_true rfl)
  rw [lg_entry_eq]
  generalize (lg_sl ([.ref (a 0), .int p0, .int p1, .int p2]) ++ List.replicate (4 - (lg_sl ([.ref (a 0), .int p0, .int p1, .int p2])).length) Slot.unset).toArray = ls at hl ⊢
  have hl : lv_has ls 4 [(0, .ref (a 0)), (1, .int p0), (2, .int p1), (3, .int p2)] := hl
  refine lv_aload_n hx hb dX2_faultOfTake_0 rfl (lv_at hl 0 rfl) ?_
  refine lv_iload_n hx hb dX2_faultOfTake_1 rfl (lv_at hl 1 rfl) ?_
  refine cs_i (W.runV (As := [.int p0]) (rest := []) ⟨hx, hb, hml, hown, hts⟩ (c_X2_isDial l dC dI cI cJ cZ a kd lo hi vl nd so fr tg gn nr mo ma fa sv sd se sh p0 ) (cwV 1 hts gX2_faultOfTake_X2_isDial rfl rfl rfl (by decide +kernel) ⟨Nat.le_of_ble_eq_true rfl, Nat.le_of_ble_eq_true rfl⟩) (fb_v hK hP (va_recv hK hP (ci := 1) (q0 := 0) rfl rfl)) rfl rfl hl.1 rfl (lv_room (Nat.le_of_ble_eq_true rfl)) dX2_faultOfTake_2 ⟨Nat.zero_le _, Nat.zero_le _⟩) ?_
  refine lv_if_eq (tgt := 16) hx hb dX2_faultOfTake_5 (by decide) (fun c_1 => ?_) (fun c_1 => ?_)
  · skip
    refine lv_iconst (v := 1) hx hb dX2_faultOfTake_16 (by decide) ?_
    exact W.iret (v := (1 : Int32)) hx hb hr (fun t ht hW => ⟨_, rfl, (by unfold x_faultOfTake; rw [if_pos c_1]), ht⟩) (fun _ h => by cases h) dX2_faultOfTake_17
  · skip
    refine lv_aload_n hx hb dX2_faultOfTake_8 rfl (lv_at hl 0 rfl) ?_
    refine lv_iload_n hx hb dX2_faultOfTake_9 rfl (lv_at hl 2 rfl) ?_
    refine cs_i (W.runV (As := [.int p1]) (rest := []) ⟨hx, hb, hml, hown, hts⟩ (c_X2_isDial l dC dI cI cJ cZ a kd lo hi vl nd so fr tg gn nr mo ma fa sv sd se sh p1 ) (cwV 1 hts gX2_faultOfTake_X2_isDial rfl rfl rfl (by decide +kernel) ⟨Nat.le_of_ble_eq_true rfl, Nat.le_of_ble_eq_true rfl⟩) (fb_v hK hP (va_recv hK hP (ci := 1) (q0 := 0) rfl rfl)) rfl rfl hl.1 rfl (lv_room (Nat.le_of_ble_eq_true rfl)) dX2_faultOfTake_10 ⟨Nat.zero_le _, Nat.zero_le _⟩) ?_
    refine lv_if_ne (tgt := 18) hx hb dX2_faultOfTake_13 (by decide) (fun c_2 => ?_) (fun c_2 => ?_)
    · skip
      refine lv_iload_n hx hb dX2_faultOfTake_18 rfl (lv_at hl 3 rfl) ?_
      refine cs_i (W.runS (As := [.int p2]) (rest := []) ⟨hx, hb, hml, hown, hts⟩ (c_X2_isSort l p2 ) (va_cwS 1 hts gX2_faultOfTake_X2_isSort rfl rfl rfl (by decide +kernel) ⟨Nat.le_of_ble_eq_true rfl, Nat.le_of_ble_eq_true rfl⟩) fb_s rfl rfl hl.1 rfl (lv_room (Nat.le_of_ble_eq_true rfl)) dX2_faultOfTake_19 ⟨Nat.zero_le _, Nat.zero_le _⟩) ?_
      refine lv_if_ne (tgt := 27) hx hb dX2_faultOfTake_22 (by decide) (fun c_3 => ?_) (fun c_3 => ?_)
      · skip
        refine lv_aload_n hx hb dX2_faultOfTake_27 rfl (lv_at hl 0 rfl) ?_
        refine lv_iload_n hx hb dX2_faultOfTake_28 rfl (lv_at hl 3 rfl) ?_
        refine lv_iload_n hx hb dX2_faultOfTake_29 rfl (lv_at hl 2 rfl) ?_
        refine lv_iload_n hx hb dX2_faultOfTake_30 rfl (lv_at hl 1 rfl) ?_
        refine cs_i (W.runV (As := [.int p2, .int p1, .int p0]) (rest := []) ⟨hx, hb, hml, hown, hts⟩ (c_X2_faultOfPair l dC dI cI cJ cZ a kd lo hi vl nd so fr tg gn nr mo ma fa sv sd se sh p2 p1 p0 (in_d hn (by assumption)) (in_d hn (by assumption))) (cwV 3 hts gX2_faultOfTake_X2_faultOfPair rfl rfl rfl (by decide +kernel) ⟨Nat.le_of_ble_eq_true rfl, Nat.le_of_ble_eq_true rfl⟩) (fb_v hK hP (va_recv hK hP (ci := 1) (q0 := 0) rfl rfl)) rfl rfl hl.1 rfl (lv_room (Nat.le_of_ble_eq_true rfl)) dX2_faultOfTake_31 ⟨Nat.zero_le _, Nat.zero_le _⟩) ?_
        exact W.iret (v := (x_faultOfPair kd p2 p1 p0)) hx hb hr (fun t ht hW => ⟨_, rfl, (by unfold x_faultOfTake; rw [if_neg c_1, if_neg c_2, if_neg c_3]), ht⟩) (fun _ h => by cases h) dX2_faultOfTake_34
      · skip
        refine lv_iconst (v := 2) hx hb dX2_faultOfTake_25 (by decide) ?_
        exact W.iret (v := (2 : Int32)) hx hb hr (fun t ht hW => ⟨_, rfl, (by unfold x_faultOfTake; rw [if_neg c_1, if_neg c_2, if_pos c_3]), ht⟩) (fun _ h => by cases h) dX2_faultOfTake_26
    · skip
      refine lv_iconst (v := 1) hx hb dX2_faultOfTake_16 (by decide) ?_
      exact W.iret (v := (1 : Int32)) hx hb hr (fun t ht hW => ⟨_, rfl, (by unfold x_faultOfTake; rw [if_neg c_1, if_pos c_2]), ht⟩) (fun _ h => by cases h) dX2_faultOfTake_17
def x_faultOfOrder (kd : Nat → Int32) (nd : Int32) (p0 : Int32) (p1 : Int32) : Int32 :=
  if (x_isDial nd p0) = 0 then (1 : Int32)
  else if (x_isDial nd p1) = 0 then (1 : Int32)
    else if (kd p0.toNatClampNeg) = (kd p1.toNatClampNeg) then (0 : Int32)
      else (6 : Int32)
set_option maxHeartbeats 4000000 in
set_option maxRecDepth 100000 in
theorem c_X2_faultOfOrder (l : Launch) (dC : Nat → ClassId) (dI : Nat → Nat → Nat) (cI cJ cZ : ClassId) (a : Nat → Nat) (kd : Nat → Int32) (lo : Nat → Int64) (hi : Nat → Int64) (vl : Nat → Int64) (nd : Int32) (so : Nat → Int32) (fr : Nat → Int32) (tg : Nat → Int32) (gn : Nat → Int32) (nr : Int32) (mo : Int32) (ma : Int32) (fa : Int32) (sv : Nat → Int64) (sd : Nat → Int32) (se : Int32) (sh : Int32) (p0 : Int32) (p1 : Int32) (hn : nd ≤ 16) : Met l yX2_faultOfOrder wsX2_faultOfOrder ({ frames := 1, cells := 0, slots := 0, locals := 21 }) (va_Pc [.ref (a 0), .int p0, .int p1] (fun U => va_P (dC, dI) vwCl (wX cI cJ cZ a kd lo hi vl nd so fr tg gn nr mo ma fa sv sd se sh) U.heap ∧ va_K (dC, dI) vwCl (tA cI cJ cZ) U)) (vp_Si (fun r => r = x_faultOfOrder kd nd p0 p1)) 0 0 (fun _ => False) := by
  refine Met.ofW (cc := cX2_faultOfOrder) (maxL := 3) (ret := (some .int)) (by decide) rfl ?_
  intro p e s m args below meth c s₁ B hml hv
  obtain ⟨rfl, hP, hK⟩ := hv
  have hx := B.exec
  have hb := B.bytes
  have hr := B.returns
  have hts := atoms_spec (ws := wsX2_faultOfOrder) B.pre
  have hown : s.vm.findClass RX2 = some m.cls := findClass_of_methodNamed B.named
  have hlocks := B.notSynchronized
  have h_inX2 : ∀ w ∈ wsX20, w ∈ wsX2_faultOfOrder := fun _ h => List.mem_cons_of_mem _ (List.mem_append_right _ h)
  have k_0 := hts (.fieldLink RX2 9 "DetentCabinet" "kinds" "[I") (by decide +kernel)
  have hl := lv_entry ([.ref (a 0), .int p0, .int p1]) (n := 3) (Nat.le_of_ble_eq_true rfl)
  rw [lg_entry_eq]
  generalize (lg_sl ([.ref (a 0), .int p0, .int p1]) ++ List.replicate (3 - (lg_sl ([.ref (a 0), .int p0, .int p1])).length) Slot.unset).toArray = ls at hl ⊢
  have hl : lv_has ls 3 [(0, .ref (a 0)), (1, .int p0), (2, .int p1)] := hl
  refine lv_aload_n hx hb dX2_faultOfOrder_0 rfl (lv_at hl 0 rfl) ?_
  refine lv_iload_n hx hb dX2_faultOfOrder_1 rfl (lv_at hl 1 rfl) ?_
  refine cs_i (W.runV (As := [.int p0]) (rest := []) ⟨hx, hb, hml, hown, hts⟩ (c_X2_isDial l dC dI cI cJ cZ a kd lo hi vl nd so fr tg gn nr mo ma fa sv sd se sh p0 ) (cwV 1 hts gX2_faultOfOrder_X2_isDial rfl rfl rfl (by decide +kernel) ⟨Nat.le_of_ble_eq_true rfl, Nat.le_of_ble_eq_true rfl⟩) (fb_v hK hP (va_recv hK hP (ci := 1) (q0 := 0) rfl rfl)) rfl rfl hl.1 rfl (lv_room (Nat.le_of_ble_eq_true rfl)) dX2_faultOfOrder_2 ⟨Nat.zero_le _, Nat.zero_le _⟩) ?_
  refine lv_if_eq (tgt := 16) hx hb dX2_faultOfOrder_5 (by decide) (fun c_1 => ?_) (fun c_1 => ?_)
  · skip
    refine lv_iconst (v := 1) hx hb dX2_faultOfOrder_16 (by decide) ?_
    exact W.iret (v := (1 : Int32)) hx hb hr (fun t ht hW => ⟨_, rfl, (by unfold x_faultOfOrder; rw [if_pos c_1]), ht⟩) (fun _ h => by cases h) dX2_faultOfOrder_17
  · skip
    refine lv_aload_n hx hb dX2_faultOfOrder_8 rfl (lv_at hl 0 rfl) ?_
    refine lv_iload_n hx hb dX2_faultOfOrder_9 rfl (lv_at hl 2 rfl) ?_
    refine cs_i (W.runV (As := [.int p1]) (rest := []) ⟨hx, hb, hml, hown, hts⟩ (c_X2_isDial l dC dI cI cJ cZ a kd lo hi vl nd so fr tg gn nr mo ma fa sv sd se sh p1 ) (cwV 1 hts gX2_faultOfOrder_X2_isDial rfl rfl rfl (by decide +kernel) ⟨Nat.le_of_ble_eq_true rfl, Nat.le_of_ble_eq_true rfl⟩) (fb_v hK hP (va_recv hK hP (ci := 1) (q0 := 0) rfl rfl)) rfl rfl hl.1 rfl (lv_room (Nat.le_of_ble_eq_true rfl)) dX2_faultOfOrder_10 ⟨Nat.zero_le _, Nat.zero_le _⟩) ?_
    refine lv_if_ne (tgt := 18) hx hb dX2_faultOfOrder_13 (by decide) (fun c_2 => ?_) (fun c_2 => ?_)
    · skip
      refine lv_aload_n hx hb dX2_faultOfOrder_18 rfl (lv_at hl 0 rfl) ?_
      refine va_get (D := (dC, dI)) (ci := 1) (v := .ref (a 1)) (C := RX2) (T := TX2) (N := 14) hx hb hts h_inX2 hown hK hP 0 rfl rfl 0 (by decide) k_0 (fun _ h9 => h9) rfl dX2_faultOfOrder_19 ?_
      refine lv_iload_n hx hb dX2_faultOfOrder_22 rfl (lv_at hl 1 rfl) ?_
      refine va_iald hx hb hK hP 1 0 rfl rfl (in_d hn (by assumption)) dX2_faultOfOrder_23 ?_
      refine lv_aload_n hx hb dX2_faultOfOrder_24 rfl (lv_at hl 0 rfl) ?_
      refine va_get (D := (dC, dI)) (ci := 1) (v := .ref (a 1)) (C := RX2) (T := TX2) (N := 14) hx hb hts h_inX2 hown hK hP 0 rfl rfl 0 (by decide) k_0 (fun _ h9 => h9) rfl dX2_faultOfOrder_25 ?_
      refine lv_iload_n hx hb dX2_faultOfOrder_28 rfl (lv_at hl 2 rfl) ?_
      refine va_iald hx hb hK hP 1 0 rfl rfl (in_d hn (by assumption)) dX2_faultOfOrder_29 ?_
      refine lv_icmp_eq (tgt := 38) hx hb dX2_faultOfOrder_30 (by decide) (fun c_3 => ?_) (fun c_3 => ?_)
      · skip
        refine lv_iconst (v := 0) hx hb dX2_faultOfOrder_38 (by decide) ?_
        exact W.iret (v := (0 : Int32)) hx hb hr (fun t ht hW => ⟨_, rfl, (by unfold x_faultOfOrder; rw [if_neg c_1, if_neg c_2, if_pos c_3]), ht⟩) (fun _ h => by cases h) dX2_faultOfOrder_39
      · skip
        refine lv_bipush (v := 6) hx hb dX2_faultOfOrder_33 (by decide) ?_
        refine lv_goto (tgt := 39) hx hb dX2_faultOfOrder_35 (by decide) ?_
        exact W.iret (v := (6 : Int32)) hx hb hr (fun t ht hW => ⟨_, rfl, (by unfold x_faultOfOrder; rw [if_neg c_1, if_neg c_2, if_neg c_3]), ht⟩) (fun _ h => by cases h) dX2_faultOfOrder_39
    · skip
      refine lv_iconst (v := 1) hx hb dX2_faultOfOrder_16 (by decide) ?_
      exact W.iret (v := (1 : Int32)) hx hb hr (fun t ht hW => ⟨_, rfl, (by unfold x_faultOfOrder; rw [if_neg c_1, if_pos c_2]), ht⟩) (fun _ h => by cases h) dX2_faultOfOrder_17
def x_gift (kd : Nat → Int32) (vl : Nat → Int64) (p0 : Int32) (p1 : Int32) (p2 : Int32) : Int64 :=
  if p0 = 0 then (n_greater (kd p1.toNatClampNeg) (vl p1.toNatClampNeg) (vl p2.toNatClampNeg))
  else if p0 = 1 then (n_less (kd p1.toNatClampNeg) (vl p1.toNatClampNeg) (vl p2.toNatClampNeg))
    else if p0 = 2 then (n_signed (kd p1.toNatClampNeg) (vl p2.toNatClampNeg) (vl p1.toNatClampNeg))
      else (n_sizeOf (kd p1.toNatClampNeg) (vl p1.toNatClampNeg))
set_option maxHeartbeats 4000000 in
set_option maxRecDepth 100000 in
theorem c_X2_gift (l : Launch) (dC : Nat → ClassId) (dI : Nat → Nat → Nat) (cI cJ cZ : ClassId) (a : Nat → Nat) (kd : Nat → Int32) (lo : Nat → Int64) (hi : Nat → Int64) (vl : Nat → Int64) (nd : Int32) (so : Nat → Int32) (fr : Nat → Int32) (tg : Nat → Int32) (gn : Nat → Int32) (nr : Int32) (mo : Int32) (ma : Int32) (fa : Int32) (sv : Nat → Int64) (sd : Nat → Int32) (se : Int32) (sh : Int32) (p0 : Int32) (p1 : Int32) (p2 : Int32) (hf : vp_in p1 16) (ht : vp_in p2 16) : Met l yX2_gift wsX2_gift ({ frames := 4, cells := 0, slots := 0, locals := 94 }) (va_Pc [.ref (a 0), .int p0, .int p1, .int p2] (fun U => va_P (dC, dI) vwCl (wX cI cJ cZ a kd lo hi vl nd so fr tg gn nr mo ma fa sv sd se sh) U.heap ∧ va_K (dC, dI) vwCl (tA cI cJ cZ) U)) (vp_Sl (fun r => r = x_gift kd vl p0 p1 p2)) 0 0 (fun _ => False) := by
  refine Met.ofW (cc := cX2_gift) (maxL := 5) (ret := (some .long)) (by decide) rfl ?_
  intro p e s m args below meth c s₁ B hml hv
  obtain ⟨rfl, hP, hK⟩ := hv
  have hx := B.exec
  have hb := B.bytes
  have hr := B.returns
  have hts := atoms_spec (ws := wsX2_gift) B.pre
  have hown : s.vm.findClass RX2 = some m.cls := findClass_of_methodNamed B.named
  have hlocks := B.notSynchronized
  have h_inX2 : ∀ w ∈ wsX20, w ∈ wsX2_gift := fun _ h => List.mem_cons_of_mem _ (List.mem_append_right _ h)
  have k_0 := hts (.fieldLink RX2 9 "DetentCabinet" "kinds" "[I") (by decide +kernel)
  have k_1 := hts (.fieldLink RX2 20 "DetentCabinet" "values" "[J") (by decide +kernel)
  have hl := lv_entry ([.ref (a 0), .int p0, .int p1, .int p2]) (n := 5) (Nat.le_of_ble_eq_true rfl)
  rw [lg_entry_eq]
  generalize (lg_sl ([.ref (a 0), .int p0, .int p1, .int p2]) ++ List.replicate (5 - (lg_sl ([.ref (a 0), .int p0, .int p1, .int p2])).length) Slot.unset).toArray = ls at hl ⊢
  have hl : lv_has ls 5 [(0, .ref (a 0)), (1, .int p0), (2, .int p1), (3, .int p2)] := hl
  refine lv_aload_n hx hb dX2_gift_0 rfl (lv_at hl 0 rfl) ?_
  refine va_get (D := (dC, dI)) (ci := 1) (v := .ref (a 1)) (C := RX2) (T := TX2) (N := 14) hx hb hts h_inX2 hown hK hP 0 rfl rfl 0 (by decide) k_0 (fun _ h9 => h9) rfl dX2_gift_1 ?_
  refine lv_iload_n hx hb dX2_gift_4 rfl (lv_at hl 2 rfl) ?_
  refine va_iald hx hb hK hP 1 0 rfl rfl (by assumption) dX2_gift_5 ?_
  refine lv_istore (lv' := [(4, .int (kd p1.toNatClampNeg)), (0, .ref (a 0)), (1, .int p0), (2, .int p1), (3, .int p2)]) hx hb dX2_gift_6 hl (by decide) rfl (fun ls hl => ?_)
  refine lv_iload_n hx hb dX2_gift_8 rfl (lv_at hl 2 rfl) ?_
  by_cases c_1 : p0 = 0
  · skip
    refine lv_tableIn (off := 27) (tgt := 36) hx hb dX2_gift_9 (by rw [c_1]; decide) (by rw [c_1]; decide) (by rw [c_1]; rfl) (by decide) ?_
    refine lv_iload hx hb dX2_gift_36 (lv_at hl 0 rfl) ?_
    refine lv_aload_n hx hb dX2_gift_38 rfl (lv_at hl 1 rfl) ?_
    refine va_get (D := (dC, dI)) (ci := 1) (v := .ref (a 4)) (C := RX2) (T := TX2) (N := 14) hx hb hts h_inX2 hown hK hP 0 rfl rfl 3 (by decide) k_1 (fun _ h9 => h9) rfl dX2_gift_39 ?_
    refine lv_iload_n hx hb dX2_gift_42 rfl (lv_at hl 3 rfl) ?_
    refine va_lald hx hb hK hP 4 1 rfl rfl (by assumption) dX2_gift_43 ?_
    refine lv_aload_n hx hb dX2_gift_44 rfl (lv_at hl 1 rfl) ?_
    refine va_get (D := (dC, dI)) (ci := 1) (v := .ref (a 4)) (C := RX2) (T := TX2) (N := 14) hx hb hts h_inX2 hown hK hP 0 rfl rfl 3 (by decide) k_1 (fun _ h9 => h9) rfl dX2_gift_45 ?_
    refine lv_iload_n hx hb dX2_gift_48 rfl (lv_at hl 4 rfl) ?_
    refine va_lald hx hb hK hP 4 1 rfl rfl (by assumption) dX2_gift_49 ?_
    refine cs_l (W.runS (As := [.int (kd p1.toNatClampNeg), .long (vl p1.toNatClampNeg), .long (vl p2.toNatClampNeg)]) (rest := []) ⟨hx, hb, hml, hown, hts⟩ (c_X0_greater l (kd p1.toNatClampNeg) (vl p1.toNatClampNeg) (vl p2.toNatClampNeg) ) (va_cwS 3 hts gX2_gift_X0_greater rfl rfl rfl (by decide +kernel) ⟨Nat.le_of_ble_eq_true rfl, Nat.le_of_ble_eq_true rfl⟩) fb_s rfl rfl hl.1 rfl (lv_room (Nat.le_of_ble_eq_true rfl)) dX2_gift_50 ⟨Nat.zero_le _, Nat.zero_le _⟩) ?_
    exact W.lret (v := (n_greater (kd p1.toNatClampNeg) (vl p1.toNatClampNeg) (vl p2.toNatClampNeg))) hx hb hr (fun t ht hW => ⟨_, rfl, (by unfold x_gift; rw [if_pos c_1]), ht⟩) (fun _ h => by cases h) dX2_gift_53
  · skip
    by_cases c_2 : p0 = 1
    · skip
      refine lv_tableIn (off := 45) (tgt := 54) hx hb dX2_gift_9 (by rw [c_2]; decide) (by rw [c_2]; decide) (by rw [c_2]; rfl) (by decide) ?_
      refine lv_iload hx hb dX2_gift_54 (lv_at hl 0 rfl) ?_
      refine lv_aload_n hx hb dX2_gift_56 rfl (lv_at hl 1 rfl) ?_
      refine va_get (D := (dC, dI)) (ci := 1) (v := .ref (a 4)) (C := RX2) (T := TX2) (N := 14) hx hb hts h_inX2 hown hK hP 0 rfl rfl 3 (by decide) k_1 (fun _ h9 => h9) rfl dX2_gift_57 ?_
      refine lv_iload_n hx hb dX2_gift_60 rfl (lv_at hl 3 rfl) ?_
      refine va_lald hx hb hK hP 4 1 rfl rfl (by assumption) dX2_gift_61 ?_
      refine lv_aload_n hx hb dX2_gift_62 rfl (lv_at hl 1 rfl) ?_
      refine va_get (D := (dC, dI)) (ci := 1) (v := .ref (a 4)) (C := RX2) (T := TX2) (N := 14) hx hb hts h_inX2 hown hK hP 0 rfl rfl 3 (by decide) k_1 (fun _ h9 => h9) rfl dX2_gift_63 ?_
      refine lv_iload_n hx hb dX2_gift_66 rfl (lv_at hl 4 rfl) ?_
      refine va_lald hx hb hK hP 4 1 rfl rfl (by assumption) dX2_gift_67 ?_
      refine cs_l (W.runS (As := [.int (kd p1.toNatClampNeg), .long (vl p1.toNatClampNeg), .long (vl p2.toNatClampNeg)]) (rest := []) ⟨hx, hb, hml, hown, hts⟩ (c_X0_less l (kd p1.toNatClampNeg) (vl p1.toNatClampNeg) (vl p2.toNatClampNeg) ) (va_cwS 3 hts gX2_gift_X0_less rfl rfl rfl (by decide +kernel) ⟨Nat.le_of_ble_eq_true rfl, Nat.le_of_ble_eq_true rfl⟩) fb_s rfl rfl hl.1 rfl (lv_room (Nat.le_of_ble_eq_true rfl)) dX2_gift_68 ⟨Nat.zero_le _, Nat.zero_le _⟩) ?_
      exact W.lret (v := (n_less (kd p1.toNatClampNeg) (vl p1.toNatClampNeg) (vl p2.toNatClampNeg))) hx hb hr (fun t ht hW => ⟨_, rfl, (by unfold x_gift; rw [if_neg c_1, if_pos c_2]), ht⟩) (fun _ h => by cases h) dX2_gift_71
    · skip
      by_cases c_3 : p0 = 2
      · skip
        refine lv_tableIn (off := 63) (tgt := 72) hx hb dX2_gift_9 (by rw [c_3]; decide) (by rw [c_3]; decide) (by rw [c_3]; rfl) (by decide) ?_
        refine lv_iload hx hb dX2_gift_72 (lv_at hl 0 rfl) ?_
        refine lv_aload_n hx hb dX2_gift_74 rfl (lv_at hl 1 rfl) ?_
        refine va_get (D := (dC, dI)) (ci := 1) (v := .ref (a 4)) (C := RX2) (T := TX2) (N := 14) hx hb hts h_inX2 hown hK hP 0 rfl rfl 3 (by decide) k_1 (fun _ h9 => h9) rfl dX2_gift_75 ?_
        refine lv_iload_n hx hb dX2_gift_78 rfl (lv_at hl 4 rfl) ?_
        refine va_lald hx hb hK hP 4 1 rfl rfl (by assumption) dX2_gift_79 ?_
        refine lv_aload_n hx hb dX2_gift_80 rfl (lv_at hl 1 rfl) ?_
        refine va_get (D := (dC, dI)) (ci := 1) (v := .ref (a 4)) (C := RX2) (T := TX2) (N := 14) hx hb hts h_inX2 hown hK hP 0 rfl rfl 3 (by decide) k_1 (fun _ h9 => h9) rfl dX2_gift_81 ?_
        refine lv_iload_n hx hb dX2_gift_84 rfl (lv_at hl 3 rfl) ?_
        refine va_lald hx hb hK hP 4 1 rfl rfl (by assumption) dX2_gift_85 ?_
        refine cs_l (W.runS (As := [.int (kd p1.toNatClampNeg), .long (vl p2.toNatClampNeg), .long (vl p1.toNatClampNeg)]) (rest := []) ⟨hx, hb, hml, hown, hts⟩ (c_X0_signed l (kd p1.toNatClampNeg) (vl p2.toNatClampNeg) (vl p1.toNatClampNeg) ) (va_cwS 3 hts gX2_gift_X0_signed rfl rfl rfl (by decide +kernel) ⟨Nat.le_of_ble_eq_true rfl, Nat.le_of_ble_eq_true rfl⟩) fb_s rfl rfl hl.1 rfl (lv_room (Nat.le_of_ble_eq_true rfl)) dX2_gift_86 ⟨Nat.zero_le _, Nat.zero_le _⟩) ?_
        exact W.lret (v := (n_signed (kd p1.toNatClampNeg) (vl p2.toNatClampNeg) (vl p1.toNatClampNeg))) hx hb hr (fun t ht hW => ⟨_, rfl, (by unfold x_gift; rw [if_neg c_1, if_neg c_2, if_pos c_3]), ht⟩) (fun _ h => by cases h) dX2_gift_89
      · skip
        refine lv_tableOut (tgt := 90) hx hb dX2_gift_9 (by have e0 := lv_neT c_1 (a := 0) (by decide); have e1 := lv_neT c_2 (a := 1) (by decide); have e2 := lv_neT c_3 (a := 2) (by decide); omega) (by decide) ?_
        refine lv_iload hx hb dX2_gift_90 (lv_at hl 0 rfl) ?_
        refine lv_aload_n hx hb dX2_gift_92 rfl (lv_at hl 1 rfl) ?_
        refine va_get (D := (dC, dI)) (ci := 1) (v := .ref (a 4)) (C := RX2) (T := TX2) (N := 14) hx hb hts h_inX2 hown hK hP 0 rfl rfl 3 (by decide) k_1 (fun _ h9 => h9) rfl dX2_gift_93 ?_
        refine lv_iload_n hx hb dX2_gift_96 rfl (lv_at hl 3 rfl) ?_
        refine va_lald hx hb hK hP 4 1 rfl rfl (by assumption) dX2_gift_97 ?_
        refine cs_l (W.runS (As := [.int (kd p1.toNatClampNeg), .long (vl p1.toNatClampNeg)]) (rest := []) ⟨hx, hb, hml, hown, hts⟩ (c_X0_sizeOf l (kd p1.toNatClampNeg) (vl p1.toNatClampNeg) ) (va_cwS 2 hts gX2_gift_X0_sizeOf rfl rfl rfl (by decide +kernel) ⟨Nat.le_of_ble_eq_true rfl, Nat.le_of_ble_eq_true rfl⟩) fb_s rfl rfl hl.1 rfl (lv_room (Nat.le_of_ble_eq_true rfl)) dX2_gift_98 ⟨Nat.zero_le _, Nat.zero_le _⟩) ?_
        exact W.lret (v := (n_sizeOf (kd p1.toNatClampNeg) (vl p1.toNatClampNeg))) hx hb hr (fun t ht hW => ⟨_, rfl, (by unfold x_gift; rw [if_neg c_1, if_neg c_2, if_neg c_3]), ht⟩) (fun _ h => by cases h) dX2_gift_101
def x_look (kd : Nat → Int32) (lo : Nat → Int64) (hi : Nat → Int64) (vl : Nat → Int64) (nd : Int32) (p0 : Int32) (p1 : Int32) : Int64 :=
  if (x_isDial nd p0) = 0 then (0 : Int64)
  else if p1 = 0 then (vl p0.toNatClampNeg)
    else if p1 = 1 then (lo p0.toNatClampNeg)
      else if p1 = 2 then (hi p0.toNatClampNeg)
        else if p1 = 3 then (kd p0.toNatClampNeg).toInt64
          else (0 : Int64)
set_option maxHeartbeats 4000000 in
set_option maxRecDepth 100000 in
theorem c_X2_look (l : Launch) (dC : Nat → ClassId) (dI : Nat → Nat → Nat) (cI cJ cZ : ClassId) (a : Nat → Nat) (kd : Nat → Int32) (lo : Nat → Int64) (hi : Nat → Int64) (vl : Nat → Int64) (nd : Int32) (so : Nat → Int32) (fr : Nat → Int32) (tg : Nat → Int32) (gn : Nat → Int32) (nr : Int32) (mo : Int32) (ma : Int32) (fa : Int32) (sv : Nat → Int64) (sd : Nat → Int32) (se : Int32) (sh : Int32) (p0 : Int32) (p1 : Int32) (hn : nd ≤ 16) : Met l yX2_look wsX2_look ({ frames := 1, cells := 0, slots := 0, locals := 21 }) (va_Pc [.ref (a 0), .int p0, .int p1] (fun U => va_P (dC, dI) vwCl (wX cI cJ cZ a kd lo hi vl nd so fr tg gn nr mo ma fa sv sd se sh) U.heap ∧ va_K (dC, dI) vwCl (tA cI cJ cZ) U)) (vp_Sl (fun r => r = x_look kd lo hi vl nd p0 p1)) 0 0 (fun _ => False) := by
  refine Met.ofW (cc := cX2_look) (maxL := 3) (ret := (some .long)) (by decide) rfl ?_
  intro p e s m args below meth c s₁ B hml hv
  obtain ⟨rfl, hP, hK⟩ := hv
  have hx := B.exec
  have hb := B.bytes
  have hr := B.returns
  have hts := atoms_spec (ws := wsX2_look) B.pre
  have hown : s.vm.findClass RX2 = some m.cls := findClass_of_methodNamed B.named
  have hlocks := B.notSynchronized
  have h_inX2 : ∀ w ∈ wsX20, w ∈ wsX2_look := fun _ h => List.mem_cons_of_mem _ (List.mem_append_right _ h)
  have k_0 := hts (.fieldLink RX2 20 "DetentCabinet" "values" "[J") (by decide +kernel)
  have k_1 := hts (.fieldLink RX2 13 "DetentCabinet" "lows" "[J") (by decide +kernel)
  have k_2 := hts (.fieldLink RX2 17 "DetentCabinet" "highs" "[J") (by decide +kernel)
  have k_3 := hts (.fieldLink RX2 9 "DetentCabinet" "kinds" "[I") (by decide +kernel)
  have hl := lv_entry ([.ref (a 0), .int p0, .int p1]) (n := 3) (Nat.le_of_ble_eq_true rfl)
  rw [lg_entry_eq]
  generalize (lg_sl ([.ref (a 0), .int p0, .int p1]) ++ List.replicate (3 - (lg_sl ([.ref (a 0), .int p0, .int p1])).length) Slot.unset).toArray = ls at hl ⊢
  have hl : lv_has ls 3 [(0, .ref (a 0)), (1, .int p0), (2, .int p1)] := hl
  refine lv_aload_n hx hb dX2_look_0 rfl (lv_at hl 0 rfl) ?_
  refine lv_iload_n hx hb dX2_look_1 rfl (lv_at hl 1 rfl) ?_
  refine cs_i (W.runV (As := [.int p0]) (rest := []) ⟨hx, hb, hml, hown, hts⟩ (c_X2_isDial l dC dI cI cJ cZ a kd lo hi vl nd so fr tg gn nr mo ma fa sv sd se sh p0 ) (cwV 1 hts gX2_look_X2_isDial rfl rfl rfl (by decide +kernel) ⟨Nat.le_of_ble_eq_true rfl, Nat.le_of_ble_eq_true rfl⟩) (fb_v hK hP (va_recv hK hP (ci := 1) (q0 := 0) rfl rfl)) rfl rfl hl.1 rfl (lv_room (Nat.le_of_ble_eq_true rfl)) dX2_look_2 ⟨Nat.zero_le _, Nat.zero_le _⟩) ?_
  refine lv_if_ne (tgt := 10) hx hb dX2_look_5 (by decide) (fun c_1 => ?_) (fun c_1 => ?_)
  · skip
    refine lv_iload_n hx hb dX2_look_10 rfl (lv_at hl 2 rfl) ?_
    by_cases c_2 : p1 = 0
    · skip
      refine lv_tableIn (off := 29) (tgt := 40) hx hb dX2_look_11 (by rw [c_2]; decide) (by rw [c_2]; decide) (by rw [c_2]; rfl) (by decide) ?_
      refine lv_aload_n hx hb dX2_look_40 rfl (lv_at hl 0 rfl) ?_
      refine va_get (D := (dC, dI)) (ci := 1) (v := .ref (a 4)) (C := RX2) (T := TX2) (N := 14) hx hb hts h_inX2 hown hK hP 0 rfl rfl 3 (by decide) k_0 (fun _ h9 => h9) rfl dX2_look_41 ?_
      refine lv_iload_n hx hb dX2_look_44 rfl (lv_at hl 1 rfl) ?_
      refine va_lald hx hb hK hP 4 1 rfl rfl (in_d hn (by assumption)) dX2_look_45 ?_
      exact W.lret (v := (vl p0.toNatClampNeg)) hx hb hr (fun t ht hW => ⟨_, rfl, (by unfold x_look; rw [if_neg c_1, if_pos c_2]), ht⟩) (fun _ h => by cases h) dX2_look_46
    · skip
      by_cases c_3 : p1 = 1
      · skip
        refine lv_tableIn (off := 36) (tgt := 47) hx hb dX2_look_11 (by rw [c_3]; decide) (by rw [c_3]; decide) (by rw [c_3]; rfl) (by decide) ?_
        refine lv_aload_n hx hb dX2_look_47 rfl (lv_at hl 0 rfl) ?_
        refine va_get (D := (dC, dI)) (ci := 1) (v := .ref (a 2)) (C := RX2) (T := TX2) (N := 14) hx hb hts h_inX2 hown hK hP 0 rfl rfl 1 (by decide) k_1 (fun _ h9 => h9) rfl dX2_look_48 ?_
        refine lv_iload_n hx hb dX2_look_51 rfl (lv_at hl 1 rfl) ?_
        refine va_lald hx hb hK hP 2 1 rfl rfl (in_d hn (by assumption)) dX2_look_52 ?_
        exact W.lret (v := (lo p0.toNatClampNeg)) hx hb hr (fun t ht hW => ⟨_, rfl, (by unfold x_look; rw [if_neg c_1, if_neg c_2, if_pos c_3]), ht⟩) (fun _ h => by cases h) dX2_look_53
      · skip
        by_cases c_4 : p1 = 2
        · skip
          refine lv_tableIn (off := 43) (tgt := 54) hx hb dX2_look_11 (by rw [c_4]; decide) (by rw [c_4]; decide) (by rw [c_4]; rfl) (by decide) ?_
          refine lv_aload_n hx hb dX2_look_54 rfl (lv_at hl 0 rfl) ?_
          refine va_get (D := (dC, dI)) (ci := 1) (v := .ref (a 3)) (C := RX2) (T := TX2) (N := 14) hx hb hts h_inX2 hown hK hP 0 rfl rfl 2 (by decide) k_2 (fun _ h9 => h9) rfl dX2_look_55 ?_
          refine lv_iload_n hx hb dX2_look_58 rfl (lv_at hl 1 rfl) ?_
          refine va_lald hx hb hK hP 3 1 rfl rfl (in_d hn (by assumption)) dX2_look_59 ?_
          exact W.lret (v := (hi p0.toNatClampNeg)) hx hb hr (fun t ht hW => ⟨_, rfl, (by unfold x_look; rw [if_neg c_1, if_neg c_2, if_neg c_3, if_pos c_4]), ht⟩) (fun _ h => by cases h) dX2_look_60
        · skip
          by_cases c_5 : p1 = 3
          · skip
            refine lv_tableIn (off := 50) (tgt := 61) hx hb dX2_look_11 (by rw [c_5]; decide) (by rw [c_5]; decide) (by rw [c_5]; rfl) (by decide) ?_
            refine lv_aload_n hx hb dX2_look_61 rfl (lv_at hl 0 rfl) ?_
            refine va_get (D := (dC, dI)) (ci := 1) (v := .ref (a 1)) (C := RX2) (T := TX2) (N := 14) hx hb hts h_inX2 hown hK hP 0 rfl rfl 0 (by decide) k_3 (fun _ h9 => h9) rfl dX2_look_62 ?_
            refine lv_iload_n hx hb dX2_look_65 rfl (lv_at hl 1 rfl) ?_
            refine va_iald hx hb hK hP 1 0 rfl rfl (in_d hn (by assumption)) dX2_look_66 ?_
            refine lv_i2l hx hb dX2_look_67 rfl ?_
            exact W.lret (v := (kd p0.toNatClampNeg).toInt64) hx hb hr (fun t ht hW => ⟨_, rfl, (by unfold x_look; rw [if_neg c_1, if_neg c_2, if_neg c_3, if_neg c_4, if_pos c_5]), ht⟩) (fun _ h => by cases h) dX2_look_68
          · skip
            refine lv_tableOut (tgt := 69) hx hb dX2_look_11 (by have e0 := lv_neT c_2 (a := 0) (by decide); have e1 := lv_neT c_3 (a := 1) (by decide); have e2 := lv_neT c_4 (a := 2) (by decide); have e3 := lv_neT c_5 (a := 3) (by decide); omega) (by decide) ?_
            refine lv_lconst (v := 0) hx hb dX2_look_69 (by decide) ?_
            exact W.lret (v := (0 : Int64)) hx hb hr (fun t ht hW => ⟨_, rfl, (by unfold x_look; rw [if_neg c_1, if_neg c_2, if_neg c_3, if_neg c_4, if_neg c_5]), ht⟩) (fun _ h => by cases h) dX2_look_70
  · skip
    refine lv_lconst (v := 0) hx hb dX2_look_8 (by decide) ?_
    exact W.lret (v := (0 : Int64)) hx hb hr (fun t ht hW => ⟨_, rfl, (by unfold x_look; rw [if_pos c_1]), ht⟩) (fun _ h => by cases h) dX2_look_9
def s_held (sh : Int32) : Int32 :=
  sh
set_option maxHeartbeats 4000000 in
set_option maxRecDepth 100000 in
theorem c_X1_held (l : Launch) (dC : Nat → ClassId) (dI : Nat → Nat → Nat) (cI cJ cZ : ClassId) (a : Nat → Nat) (kd : Nat → Int32) (lo : Nat → Int64) (hi : Nat → Int64) (vl : Nat → Int64) (nd : Int32) (so : Nat → Int32) (fr : Nat → Int32) (tg : Nat → Int32) (gn : Nat → Int32) (nr : Int32) (mo : Int32) (ma : Int32) (fa : Int32) (sv : Nat → Int64) (sd : Nat → Int32) (se : Int32) (sh : Int32) : Met l yX1_held wsX1_held ({ frames := 0, cells := 0, slots := 0, locals := 0 }) (va_Pc [.ref (a 9)] (fun U => va_P (dC, dI) vwCl (wX cI cJ cZ a kd lo hi vl nd so fr tg gn nr mo ma fa sv sd se sh) U.heap ∧ va_K (dC, dI) vwCl (tA cI cJ cZ) U)) (vp_Si (fun r => r = s_held sh)) 0 0 (fun _ => False) := by
  refine Met.ofW (cc := cX1_held) (maxL := 1) (ret := (some .int)) (by decide) rfl ?_
  intro p e s m args below meth c s₁ B hml hv
  obtain ⟨rfl, hP, hK⟩ := hv
  have hx := B.exec
  have hb := B.bytes
  have hr := B.returns
  have hts := atoms_spec (ws := wsX1_held) B.pre
  have hown : s.vm.findClass RX1 = some m.cls := findClass_of_methodNamed B.named
  have hlocks := B.notSynchronized
  have h_inX1 : ∀ w ∈ wsX10, w ∈ wsX1_held := fun _ h => List.mem_cons_of_mem _ (List.mem_append_right _ h)
  have k_0 := hts (.fieldLink RX1 19 "DetentCabinet$Steps" "held" "I") (by decide +kernel)
  have hl := lv_entry ([.ref (a 9)]) (n := 1) (Nat.le_of_ble_eq_true rfl)
  rw [lg_entry_eq]
  generalize (lg_sl ([.ref (a 9)]) ++ List.replicate (1 - (lg_sl ([.ref (a 9)])).length) Slot.unset).toArray = ls at hl ⊢
  have hl : lv_has ls 1 [(0, .ref (a 9))] := hl
  refine lv_aload_n hx hb dX1_held_0 rfl (lv_at hl 0 rfl) ?_
  refine va_get (D := (dC, dI)) (ci := 0) (v := .int sh) (C := RX1) (T := TX1) (N := 4) hx hb hts h_inX1 hown hK hP 9 rfl rfl 3 (by decide) k_0 (fun _ h9 => h9) rfl dX1_held_1 ?_
  exact W.iret (v := sh) hx hb hr (fun t ht hW => ⟨_, rfl, rfl, ht⟩) (fun _ h => by cases h) dX1_held_4
def x_count (nd : Int32) (nr : Int32) (ma : Int32) (fa : Int32) (sh : Int32) (p0 : Int32) : Int32 :=
  if p0 = 0 then nd
  else if p0 = 1 then nr
    else if p0 = 2 then (s_held sh)
      else if p0 = 3 then ma
        else if p0 = 4 then fa
          else (-1 : Int32)
set_option maxHeartbeats 4000000 in
set_option maxRecDepth 100000 in
theorem c_X2_count (l : Launch) (dC : Nat → ClassId) (dI : Nat → Nat → Nat) (cI cJ cZ : ClassId) (a : Nat → Nat) (kd : Nat → Int32) (lo : Nat → Int64) (hi : Nat → Int64) (vl : Nat → Int64) (nd : Int32) (so : Nat → Int32) (fr : Nat → Int32) (tg : Nat → Int32) (gn : Nat → Int32) (nr : Int32) (mo : Int32) (ma : Int32) (fa : Int32) (sv : Nat → Int64) (sd : Nat → Int32) (se : Int32) (sh : Int32) (p0 : Int32) : Met l yX2_count wsX2_count ({ frames := 1, cells := 0, slots := 0, locals := 20 }) (va_Pc [.ref (a 0), .int p0] (fun U => va_P (dC, dI) vwCl (wX cI cJ cZ a kd lo hi vl nd so fr tg gn nr mo ma fa sv sd se sh) U.heap ∧ va_K (dC, dI) vwCl (tA cI cJ cZ) U)) (vp_Si (fun r => r = x_count nd nr ma fa sh p0)) 0 0 (fun _ => False) := by
  refine Met.ofW (cc := cX2_count) (maxL := 2) (ret := (some .int)) (by decide) rfl ?_
  intro p e s m args below meth c s₁ B hml hv
  obtain ⟨rfl, hP, hK⟩ := hv
  have hx := B.exec
  have hb := B.bytes
  have hr := B.returns
  have hts := atoms_spec (ws := wsX2_count) B.pre
  have hown : s.vm.findClass RX2 = some m.cls := findClass_of_methodNamed B.named
  have hlocks := B.notSynchronized
  have h_inX2 : ∀ w ∈ wsX20, w ∈ wsX2_count := fun _ h => List.mem_cons_of_mem _ (List.mem_append_left _ (List.mem_append_right _ h))
  have k_0 := hts (.fieldLink RX2 51 "DetentCabinet" "dialCount" "I") (by decide +kernel)
  have k_1 := hts (.fieldLink RX2 64 "DetentCabinet" "rodCount" "I") (by decide +kernel)
  have k_2 := hts (.fieldLink RX2 39 "DetentCabinet" "steps" "LDetentCabinet$Steps;") (by decide +kernel)
  have k_3 := hts (.fieldLink RX2 107 "DetentCabinet" "movesInAll" "I") (by decide +kernel)
  have k_4 := hts (.fieldLink RX2 47 "DetentCabinet" "fault" "I") (by decide +kernel)
  have hl := lv_entry ([.ref (a 0), .int p0]) (n := 2) (Nat.le_of_ble_eq_true rfl)
  rw [lg_entry_eq]
  generalize (lg_sl ([.ref (a 0), .int p0]) ++ List.replicate (2 - (lg_sl ([.ref (a 0), .int p0])).length) Slot.unset).toArray = ls at hl ⊢
  have hl : lv_has ls 2 [(0, .ref (a 0)), (1, .int p0)] := hl
  refine lv_iload_n hx hb dX2_count_0 rfl (lv_at hl 1 rfl) ?_
  by_cases c_1 : p0 = 0
  · skip
    refine lv_tableIn (off := 35) (tgt := 36) hx hb dX2_count_1 (by rw [c_1]; decide) (by rw [c_1]; decide) (by rw [c_1]; rfl) (by decide) ?_
    refine lv_aload_n hx hb dX2_count_36 rfl (lv_at hl 0 rfl) ?_
    refine va_get (D := (dC, dI)) (ci := 1) (v := .int nd) (C := RX2) (T := TX2) (N := 14) hx hb hts h_inX2 hown hK hP 0 rfl rfl 4 (by decide) k_0 (fun _ h9 => h9) rfl dX2_count_37 ?_
    exact W.iret (v := nd) hx hb hr (fun t ht hW => ⟨_, rfl, (by unfold x_count; rw [if_pos c_1]), ht⟩) (fun _ h => by cases h) dX2_count_40
  · skip
    by_cases c_2 : p0 = 1
    · skip
      refine lv_tableIn (off := 40) (tgt := 41) hx hb dX2_count_1 (by rw [c_2]; decide) (by rw [c_2]; decide) (by rw [c_2]; rfl) (by decide) ?_
      refine lv_aload_n hx hb dX2_count_41 rfl (lv_at hl 0 rfl) ?_
      refine va_get (D := (dC, dI)) (ci := 1) (v := .int nr) (C := RX2) (T := TX2) (N := 14) hx hb hts h_inX2 hown hK hP 0 rfl rfl 9 (by decide) k_1 (fun _ h9 => h9) rfl dX2_count_42 ?_
      exact W.iret (v := nr) hx hb hr (fun t ht hW => ⟨_, rfl, (by unfold x_count; rw [if_neg c_1, if_pos c_2]), ht⟩) (fun _ h => by cases h) dX2_count_45
    · skip
      by_cases c_3 : p0 = 2
      · skip
        refine lv_tableIn (off := 45) (tgt := 46) hx hb dX2_count_1 (by rw [c_3]; decide) (by rw [c_3]; decide) (by rw [c_3]; rfl) (by decide) ?_
        refine lv_aload_n hx hb dX2_count_46 rfl (lv_at hl 0 rfl) ?_
        refine va_get (D := (dC, dI)) (ci := 1) (v := .ref (a 9)) (C := RX2) (T := TX2) (N := 14) hx hb hts h_inX2 hown hK hP 0 rfl rfl 10 (by decide) k_2 (fun _ h9 => h9) rfl dX2_count_47 ?_
        refine cs_i (W.runV (As := []) (rest := []) ⟨hx, hb, hml, hown, hts⟩ (c_X1_held l dC dI cI cJ cZ a kd lo hi vl nd so fr tg gn nr mo ma fa sv sd se sh  ) (cwV 0 hts gX2_count_X1_held rfl rfl rfl (by decide +kernel) ⟨Nat.le_of_ble_eq_true rfl, Nat.le_of_ble_eq_true rfl⟩) (fb_v hK hP (va_recv hK hP (ci := 0) (q0 := 9) rfl rfl)) rfl rfl hl.1 rfl (lv_room (Nat.le_of_ble_eq_true rfl)) dX2_count_50 ⟨Nat.zero_le _, Nat.zero_le _⟩) ?_
        exact W.iret (v := (s_held sh)) hx hb hr (fun t ht hW => ⟨_, rfl, (by unfold x_count; rw [if_neg c_1, if_neg c_2, if_pos c_3]), ht⟩) (fun _ h => by cases h) dX2_count_53
      · skip
        by_cases c_4 : p0 = 3
        · skip
          refine lv_tableIn (off := 53) (tgt := 54) hx hb dX2_count_1 (by rw [c_4]; decide) (by rw [c_4]; decide) (by rw [c_4]; rfl) (by decide) ?_
          refine lv_aload_n hx hb dX2_count_54 rfl (lv_at hl 0 rfl) ?_
          refine va_get (D := (dC, dI)) (ci := 1) (v := .int ma) (C := RX2) (T := TX2) (N := 14) hx hb hts h_inX2 hown hK hP 0 rfl rfl 12 (by decide) k_3 (fun _ h9 => h9) rfl dX2_count_55 ?_
          exact W.iret (v := ma) hx hb hr (fun t ht hW => ⟨_, rfl, (by unfold x_count; rw [if_neg c_1, if_neg c_2, if_neg c_3, if_pos c_4]), ht⟩) (fun _ h => by cases h) dX2_count_58
        · skip
          by_cases c_5 : p0 = 4
          · skip
            refine lv_tableIn (off := 58) (tgt := 59) hx hb dX2_count_1 (by rw [c_5]; decide) (by rw [c_5]; decide) (by rw [c_5]; rfl) (by decide) ?_
            refine lv_aload_n hx hb dX2_count_59 rfl (lv_at hl 0 rfl) ?_
            refine va_get (D := (dC, dI)) (ci := 1) (v := .int fa) (C := RX2) (T := TX2) (N := 14) hx hb hts h_inX2 hown hK hP 0 rfl rfl 13 (by decide) k_4 (fun _ h9 => h9) rfl dX2_count_60 ?_
            exact W.iret (v := fa) hx hb hr (fun t ht hW => ⟨_, rfl, (by unfold x_count; rw [if_neg c_1, if_neg c_2, if_neg c_3, if_neg c_4, if_pos c_5]), ht⟩) (fun _ h => by cases h) dX2_count_63
          · skip
            refine lv_tableOut (tgt := 64) hx hb dX2_count_1 (by have e0 := lv_neT c_1 (a := 0) (by decide); have e1 := lv_neT c_2 (a := 1) (by decide); have e2 := lv_neT c_3 (a := 2) (by decide); have e3 := lv_neT c_4 (a := 3) (by decide); have e4 := lv_neT c_5 (a := 4) (by decide); omega) (by decide) ?_
            refine lv_iconst (v := (-1)) hx hb dX2_count_64 (by decide) ?_
            exact W.iret (v := (-1 : Int32)) hx hb hr (fun t ht hW => ⟨_, rfl, (by unfold x_count; rw [if_neg c_1, if_neg c_2, if_neg c_3, if_neg c_4, if_neg c_5]), ht⟩) (fun _ h => by cases h) dX2_count_65
end
section
def m_isReal (p0 : Int32) : Int32 :=
  if p0 ≤ (1 : Int32) then (0 : Int32)
  else (1 : Int32)
set_option maxHeartbeats 4000000 in
set_option maxRecDepth 100000 in
theorem c_X3_isReal (l : Launch) (dC : Nat → ClassId) (dI : Nat → Nat → Nat) (cI cJ cZ : ClassId) (b : Nat → Nat) (kd : Nat → Int32) (vl : Nat → Int64) (lo : Nat → Int64) (hi : Nat → Int64) (nd : Int32) (so : Nat → Int32) (fr : Nat → Int32) (tg : Nat → Int32) (gn : Nat → Int32) (nr : Int32) (kp : Nat → Int64) (ah : Nat → Int64) (kx : Nat → Int32) (st : Int32) (mo : Int32) (ma : Int32) (fa : Int32) (op : Nat → Int32) (nx : Nat → Int32) (p0 : Int32) : Met l yX3_isReal wsX3_isReal ({ frames := 0, cells := 0, slots := 0, locals := 0 }) (va_Pc [.ref (b 0), .int p0] (fun U => va_P (dC, dI) vwCl (wM cI cJ cZ b kd vl lo hi nd so fr tg gn nr kp ah kx st mo ma fa op nx) U.heap ∧ va_K (dC, dI) vwCl (tA cI cJ cZ) U)) (vp_Si (fun r => r = m_isReal p0)) 0 0 (fun _ => False) := by
  refine Met.ofW (cc := cX3_isReal) (maxL := 2) (ret := (some .boolean)) (by decide) rfl ?_
  intro p e s m args below meth c s₁ B hml hv
  obtain ⟨rfl, hP, hK⟩ := hv
  have hx := B.exec
  have hb := B.bytes
  have hr := B.returns
  have hts := atoms_spec (ws := wsX3_isReal) B.pre
  have hown : s.vm.findClass RX3 = some m.cls := findClass_of_methodNamed B.named
  have hlocks := B.notSynchronized
  have hl := lv_entry ([.ref (b 0), .int p0]) (n := 2) (Nat.le_of_ble_eq_true rfl)
  rw [lg_entry_eq]
  generalize (lg_sl ([.ref (b 0), .int p0]) ++ List.replicate (2 - (lg_sl ([.ref (b 0), .int p0])).length) Slot.unset).toArray = ls at hl ⊢
  have hl : lv_has ls 2 [(0, .ref (b 0)), (1, .int p0)] := hl
  refine lv_iload_n hx hb dX3_isReal_0 rfl (lv_at hl 1 rfl) ?_
  refine lv_iconst (v := 1) hx hb dX3_isReal_1 (by decide) ?_
  refine lv_icmp_le (tgt := 9) hx hb dX3_isReal_2 (by decide) (fun c_1 => ?_) (fun c_1 => ?_)
  · skip
    refine lv_iconst (v := 0) hx hb dX3_isReal_9 (by decide) ?_
    exact W.zret (v := (0 : Int32)) hx hb hr (by first | rfl | decide | assumption) (fun t ht hW => ⟨_, rfl, (by unfold m_isReal; rw [if_pos c_1]), ht⟩) (fun _ h => by cases h) dX3_isReal_10
  · skip
    refine lv_iconst (v := 1) hx hb dX3_isReal_5 (by decide) ?_
    refine lv_goto (tgt := 10) hx hb dX3_isReal_6 (by decide) ?_
    exact W.zret (v := (1 : Int32)) hx hb hr (by first | rfl | decide | assumption) (fun t ht hW => ⟨_, rfl, (by unfold m_isReal; rw [if_neg c_1]), ht⟩) (fun _ h => by cases h) dX3_isReal_10
def m_isInt (p0 : Int64) : Int32 :=
  if p0 < (-2147483648 : Int64) then (0 : Int32)
  else if (2147483647 : Int64) < p0 then (0 : Int32)
    else (1 : Int32)
set_option maxHeartbeats 4000000 in
set_option maxRecDepth 100000 in
theorem c_X3_isInt (l : Launch) (dC : Nat → ClassId) (dI : Nat → Nat → Nat) (cI cJ cZ : ClassId) (b : Nat → Nat) (kd : Nat → Int32) (vl : Nat → Int64) (lo : Nat → Int64) (hi : Nat → Int64) (nd : Int32) (so : Nat → Int32) (fr : Nat → Int32) (tg : Nat → Int32) (gn : Nat → Int32) (nr : Int32) (kp : Nat → Int64) (ah : Nat → Int64) (kx : Nat → Int32) (st : Int32) (mo : Int32) (ma : Int32) (fa : Int32) (op : Nat → Int32) (nx : Nat → Int32) (p0 : Int64) : Met l yX3_isInt wsX3_isInt ({ frames := 0, cells := 0, slots := 0, locals := 0 }) (va_Pc [.ref (b 0), .long p0] (fun U => va_P (dC, dI) vwCl (wM cI cJ cZ b kd vl lo hi nd so fr tg gn nr kp ah kx st mo ma fa op nx) U.heap ∧ va_K (dC, dI) vwCl (tA cI cJ cZ) U)) (vp_Si (fun r => r = m_isInt p0)) 0 0 (fun _ => False) := by
  refine Met.ofW (cc := cX3_isInt) (maxL := 3) (ret := (some .boolean)) (by decide) rfl ?_
  intro p e s m args below meth c s₁ B hml hv
  obtain ⟨rfl, hP, hK⟩ := hv
  have hx := B.exec
  have hb := B.bytes
  have hr := B.returns
  have hts := atoms_spec (ws := wsX3_isInt) B.pre
  have hown : s.vm.findClass RX3 = some m.cls := findClass_of_methodNamed B.named
  have hlocks := B.notSynchronized
  have k_0 := hts (.constantLong RX3 58 (-2147483648)) (by decide +kernel)
  have k_1 := hts (.constantLong RX3 60 (2147483647)) (by decide +kernel)
  have hl := lv_entry ([.ref (b 0), .long p0]) (n := 3) (Nat.le_of_ble_eq_true rfl)
  rw [lg_entry_eq]
  generalize (lg_sl ([.ref (b 0), .long p0]) ++ List.replicate (3 - (lg_sl ([.ref (b 0), .long p0])).length) Slot.unset).toArray = ls at hl ⊢
  have hl : lv_has ls 3 [(0, .ref (b 0)), (1, .long p0)] := hl
  refine lv_lload_n hx hb dX3_isInt_0 rfl (lv_at hl 1 rfl) ?_
  refine lv_ldc2 hx hb hown k_0 dX3_isInt_1 ?_
  refine W.lcmp hx hb dX3_isInt_4 ?_
  refine lv_if_lt (tgt := 20) hx hb dX3_isInt_5 (by decide) (fun c_1 => ?_) (fun c_1 => ?_)
  · skip
    have c_1 : p0 < (-2147483648 : Int64) := (lg_cmp_lt _ _).mp c_1
    refine lv_iconst (v := 0) hx hb dX3_isInt_20 (by decide) ?_
    exact W.zret (v := (0 : Int32)) hx hb hr (by first | rfl | decide | assumption) (fun t ht hW => ⟨_, rfl, (by unfold m_isInt; rw [if_pos c_1]), ht⟩) (fun _ h => by cases h) dX3_isInt_21
  · skip
    have c_1 : ¬ (p0 < (-2147483648 : Int64)) := fun h => c_1 ((lg_cmp_lt _ _).mpr h)
    refine lv_lload_n hx hb dX3_isInt_8 rfl (lv_at hl 1 rfl) ?_
    refine lv_ldc2 hx hb hown k_1 dX3_isInt_9 ?_
    refine W.lcmp hx hb dX3_isInt_12 ?_
    refine lv_if_gt (tgt := 20) hx hb dX3_isInt_13 (by decide) (fun c_2 => ?_) (fun c_2 => ?_)
    · skip
      have c_2 : (2147483647 : Int64) < p0 := (lg_cmp_gt _ _).mp c_2
      refine lv_iconst (v := 0) hx hb dX3_isInt_20 (by decide) ?_
      exact W.zret (v := (0 : Int32)) hx hb hr (by first | rfl | decide | assumption) (fun t ht hW => ⟨_, rfl, (by unfold m_isInt; rw [if_neg c_1, if_pos c_2]), ht⟩) (fun _ h => by cases h) dX3_isInt_21
    · skip
      have c_2 : ¬ ((2147483647 : Int64) < p0) := fun h => c_2 ((lg_cmp_gt _ _).mpr h)
      refine lv_iconst (v := 1) hx hb dX3_isInt_16 (by decide) ?_
      refine lv_goto (tgt := 21) hx hb dX3_isInt_17 (by decide) ?_
      exact W.zret (v := (1 : Int32)) hx hb hr (by first | rfl | decide | assumption) (fun t ht hW => ⟨_, rfl, (by unfold m_isInt; rw [if_neg c_1, if_neg c_2]), ht⟩) (fun _ h => by cases h) dX3_isInt_21
def m_isNumber (p0 : Int32) (p1 : Int64) : Int32 :=
  if p0 = (1 : Int32) then (1 : Int32)
  else if p0 = (3 : Int32) then (if (9218868437227405312 : Int64) < (p1 &&& (9223372036854775807 : Int64)) then (0 : Int32)
      else (1 : Int32))
    else if (m_isInt p1) = 0 then (0 : Int32)
      else if p0 = 0 then (1 : Int32)
        else if (2139095040 : Int64) < (p1 &&& (2147483647 : Int64)) then (0 : Int32)
          else (1 : Int32)
set_option maxHeartbeats 4000000 in
set_option maxRecDepth 100000 in
theorem c_X3_isNumber (l : Launch) (dC : Nat → ClassId) (dI : Nat → Nat → Nat) (cI cJ cZ : ClassId) (b : Nat → Nat) (kd : Nat → Int32) (vl : Nat → Int64) (lo : Nat → Int64) (hi : Nat → Int64) (nd : Int32) (so : Nat → Int32) (fr : Nat → Int32) (tg : Nat → Int32) (gn : Nat → Int32) (nr : Int32) (kp : Nat → Int64) (ah : Nat → Int64) (kx : Nat → Int32) (st : Int32) (mo : Int32) (ma : Int32) (fa : Int32) (op : Nat → Int32) (nx : Nat → Int32) (p0 : Int32) (p1 : Int64) : Met l yX3_isNumber wsX3_isNumber ({ frames := 1, cells := 0, slots := 0, locals := 22 }) (va_Pc [.ref (b 0), .int p0, .long p1] (fun U => va_P (dC, dI) vwCl (wM cI cJ cZ b kd vl lo hi nd so fr tg gn nr kp ah kx st mo ma fa op nx) U.heap ∧ va_K (dC, dI) vwCl (tA cI cJ cZ) U)) (vp_Si (fun r => r = m_isNumber p0 p1)) 0 0 (fun _ => False) := by
  refine Met.ofW (cc := cX3_isNumber) (maxL := 4) (ret := (some .boolean)) (by decide) rfl ?_
  intro p e s m args below meth c s₁ B hml hv
  obtain ⟨rfl, hP, hK⟩ := hv
  have hx := B.exec
  have hb := B.bytes
  have hr := B.returns
  have hts := atoms_spec (ws := wsX3_isNumber) B.pre
  have hown : s.vm.findClass RX3 = some m.cls := findClass_of_methodNamed B.named
  have hlocks := B.notSynchronized
  have k_0 := hts (.constantLong RX3 60 (2147483647)) (by decide +kernel)
  have k_1 := hts (.constantLong RX3 70 (2139095040)) (by decide +kernel)
  have k_2 := hts (.constantLong RX3 62 (9223372036854775807)) (by decide +kernel)
  have k_3 := hts (.constantLong RX3 64 (9218868437227405312)) (by decide +kernel)
  have hl := lv_entry ([.ref (b 0), .int p0, .long p1]) (n := 4) (Nat.le_of_ble_eq_true rfl)
  rw [lg_entry_eq]
  generalize (lg_sl ([.ref (b 0), .int p0, .long p1]) ++ List.replicate (4 - (lg_sl ([.ref (b 0), .int p0, .long p1])).length) Slot.unset).toArray = ls at hl ⊢
  have hl : lv_has ls 4 [(0, .ref (b 0)), (1, .int p0), (2, .long p1)] := hl
  refine lv_iload_n hx hb dX3_isNumber_0 rfl (lv_at hl 1 rfl) ?_
  refine lv_iconst (v := 1) hx hb dX3_isNumber_1 (by decide) ?_
  refine lv_icmp_ne (tgt := 7) hx hb dX3_isNumber_2 (by decide) (fun c_1 => ?_) (fun c_1 => ?_)
  · skip
    refine lv_iload_n hx hb dX3_isNumber_7 rfl (lv_at hl 1 rfl) ?_
    refine lv_iconst (v := 3) hx hb dX3_isNumber_8 (by decide) ?_
    refine lv_icmp_ne (tgt := 30) hx hb dX3_isNumber_9 (by decide) (fun c_2 => ?_) (fun c_2 => ?_)
    · skip
      refine lv_aload_n hx hb dX3_isNumber_30 rfl (lv_at hl 0 rfl) ?_
      refine lv_lload_n hx hb dX3_isNumber_31 rfl (lv_at hl 2 rfl) ?_
      refine cs_i (W.runV (As := [.long p1]) (rest := []) ⟨hx, hb, hml, hown, hts⟩ (c_X3_isInt l dC dI cI cJ cZ b kd vl lo hi nd so fr tg gn nr kp ah kx st mo ma fa op nx p1 ) (cwV 1 hts gX3_isNumber_X3_isInt rfl rfl rfl (by decide +kernel) ⟨Nat.le_of_ble_eq_true rfl, Nat.le_of_ble_eq_true rfl⟩) (fb_v hK hP (va_recv hK hP (ci := 2) (q0 := 0) rfl rfl)) rfl rfl hl.1 rfl (lv_room (Nat.le_of_ble_eq_true rfl)) dX3_isNumber_32 ⟨Nat.zero_le _, Nat.zero_le _⟩) ?_
      refine lv_if_eq (tgt := 58) hx hb dX3_isNumber_35 (by decide) (fun c_3 => ?_) (fun c_3 => ?_)
      · skip
        refine lv_iconst (v := 0) hx hb dX3_isNumber_58 (by decide) ?_
        exact W.zret (v := (0 : Int32)) hx hb hr (by first | rfl | decide | assumption) (fun t ht hW => ⟨_, rfl, (by unfold m_isNumber; rw [if_neg c_1, if_neg c_2, if_pos c_3]), ht⟩) (fun _ h => by cases h) dX3_isNumber_59
      · skip
        refine lv_iload_n hx hb dX3_isNumber_38 rfl (lv_at hl 1 rfl) ?_
        refine lv_if_eq (tgt := 54) hx hb dX3_isNumber_39 (by decide) (fun c_4 => ?_) (fun c_4 => ?_)
        · skip
          refine lv_iconst (v := 1) hx hb dX3_isNumber_54 (by decide) ?_
          refine lv_goto (tgt := 59) hx hb dX3_isNumber_55 (by decide) ?_
          exact W.zret (v := (1 : Int32)) hx hb hr (by first | rfl | decide | assumption) (fun t ht hW => ⟨_, rfl, (by unfold m_isNumber; rw [if_neg c_1, if_neg c_2, if_neg c_3, if_pos c_4]), ht⟩) (fun _ h => by cases h) dX3_isNumber_59
        · skip
          refine lv_lload_n hx hb dX3_isNumber_42 rfl (lv_at hl 2 rfl) ?_
          refine lv_ldc2 hx hb hown k_0 dX3_isNumber_43 ?_
          refine lv_land hx hb dX3_isNumber_46 ?_
          refine lv_ldc2 hx hb hown k_1 dX3_isNumber_47 ?_
          refine W.lcmp hx hb dX3_isNumber_50 ?_
          refine lv_if_gt (tgt := 58) hx hb dX3_isNumber_51 (by decide) (fun c_5 => ?_) (fun c_5 => ?_)
          · skip
            have c_5 : (2139095040 : Int64) < (p1 &&& (2147483647 : Int64)) := (lg_cmp_gt _ _).mp c_5
            refine lv_iconst (v := 0) hx hb dX3_isNumber_58 (by decide) ?_
            exact W.zret (v := (0 : Int32)) hx hb hr (by first | rfl | decide | assumption) (fun t ht hW => ⟨_, rfl, (by unfold m_isNumber; rw [if_neg c_1, if_neg c_2, if_neg c_3, if_neg c_4, if_pos c_5]), ht⟩) (fun _ h => by cases h) dX3_isNumber_59
          · skip
            have c_5 : ¬ ((2139095040 : Int64) < (p1 &&& (2147483647 : Int64))) := fun h => c_5 ((lg_cmp_gt _ _).mpr h)
            refine lv_iconst (v := 1) hx hb dX3_isNumber_54 (by decide) ?_
            refine lv_goto (tgt := 59) hx hb dX3_isNumber_55 (by decide) ?_
            exact W.zret (v := (1 : Int32)) hx hb hr (by first | rfl | decide | assumption) (fun t ht hW => ⟨_, rfl, (by unfold m_isNumber; rw [if_neg c_1, if_neg c_2, if_neg c_3, if_neg c_4, if_neg c_5]), ht⟩) (fun _ h => by cases h) dX3_isNumber_59
    · skip
      refine lv_lload_n hx hb dX3_isNumber_12 rfl (lv_at hl 2 rfl) ?_
      refine lv_ldc2 hx hb hown k_2 dX3_isNumber_13 ?_
      refine lv_land hx hb dX3_isNumber_16 ?_
      refine lv_ldc2 hx hb hown k_3 dX3_isNumber_17 ?_
      refine W.lcmp hx hb dX3_isNumber_20 ?_
      refine lv_if_gt (tgt := 28) hx hb dX3_isNumber_21 (by decide) (fun c_6 => ?_) (fun c_6 => ?_)
      · skip
        have c_6 : (9218868437227405312 : Int64) < (p1 &&& (9223372036854775807 : Int64)) := (lg_cmp_gt _ _).mp c_6
        refine lv_iconst (v := 0) hx hb dX3_isNumber_28 (by decide) ?_
        exact W.zret (v := (0 : Int32)) hx hb hr (by first | rfl | decide | assumption) (fun t ht hW => ⟨_, rfl, (by unfold m_isNumber; rw [if_neg c_1, if_pos c_2, if_pos c_6]), ht⟩) (fun _ h => by cases h) dX3_isNumber_29
      · skip
        have c_6 : ¬ ((9218868437227405312 : Int64) < (p1 &&& (9223372036854775807 : Int64))) := fun h => c_6 ((lg_cmp_gt _ _).mpr h)
        refine lv_iconst (v := 1) hx hb dX3_isNumber_24 (by decide) ?_
        refine lv_goto (tgt := 29) hx hb dX3_isNumber_25 (by decide) ?_
        exact W.zret (v := (1 : Int32)) hx hb hr (by first | rfl | decide | assumption) (fun t ht hW => ⟨_, rfl, (by unfold m_isNumber; rw [if_neg c_1, if_pos c_2, if_neg c_6]), ht⟩) (fun _ h => by cases h) dX3_isNumber_29
  · skip
    refine lv_iconst (v := 1) hx hb dX3_isNumber_5 (by decide) ?_
    exact W.zret (v := (1 : Int32)) hx hb hr (by first | rfl | decide | assumption) (fun t ht hW => ⟨_, rfl, (by unfold m_isNumber; rw [if_pos c_1]), ht⟩) (fun _ h => by cases h) dX3_isNumber_6
def m_rank (p0 : Int32) (p1 : Int64) : Int64 :=
  if (m_isReal p0) = 0 then p1
  else if p1 < (0 : Int64) then (if p0 = (2 : Int32) then (p1 ^^^ (2147483647 : Int64))
      else (p1 ^^^ (9223372036854775807 : Int64)))
    else p1
set_option maxHeartbeats 4000000 in
set_option maxRecDepth 100000 in
theorem c_X3_rank (l : Launch) (dC : Nat → ClassId) (dI : Nat → Nat → Nat) (cI cJ cZ : ClassId) (b : Nat → Nat) (kd : Nat → Int32) (vl : Nat → Int64) (lo : Nat → Int64) (hi : Nat → Int64) (nd : Int32) (so : Nat → Int32) (fr : Nat → Int32) (tg : Nat → Int32) (gn : Nat → Int32) (nr : Int32) (kp : Nat → Int64) (ah : Nat → Int64) (kx : Nat → Int32) (st : Int32) (mo : Int32) (ma : Int32) (fa : Int32) (op : Nat → Int32) (nx : Nat → Int32) (p0 : Int32) (p1 : Int64) : Met l yX3_rank wsX3_rank ({ frames := 1, cells := 0, slots := 0, locals := 21 }) (va_Pc [.ref (b 0), .int p0, .long p1] (fun U => va_P (dC, dI) vwCl (wM cI cJ cZ b kd vl lo hi nd so fr tg gn nr kp ah kx st mo ma fa op nx) U.heap ∧ va_K (dC, dI) vwCl (tA cI cJ cZ) U)) (vp_Sl (fun r => r = m_rank p0 p1)) 0 0 (fun _ => False) := by
  refine Met.ofW (cc := cX3_rank) (maxL := 4) (ret := (some .long)) (by decide) rfl ?_
  intro p e s m args below meth c s₁ B hml hv
  obtain ⟨rfl, hP, hK⟩ := hv
  have hx := B.exec
  have hb := B.bytes
  have hr := B.returns
  have hts := atoms_spec (ws := wsX3_rank) B.pre
  have hown : s.vm.findClass RX3 = some m.cls := findClass_of_methodNamed B.named
  have hlocks := B.notSynchronized
  have k_0 := hts (.constantLong RX3 62 (9223372036854775807)) (by decide +kernel)
  have k_1 := hts (.constantLong RX3 60 (2147483647)) (by decide +kernel)
  have hl := lv_entry ([.ref (b 0), .int p0, .long p1]) (n := 4) (Nat.le_of_ble_eq_true rfl)
  rw [lg_entry_eq]
  generalize (lg_sl ([.ref (b 0), .int p0, .long p1]) ++ List.replicate (4 - (lg_sl ([.ref (b 0), .int p0, .long p1])).length) Slot.unset).toArray = ls at hl ⊢
  have hl : lv_has ls 4 [(0, .ref (b 0)), (1, .int p0), (2, .long p1)] := hl
  refine lv_aload_n hx hb dX3_rank_0 rfl (lv_at hl 0 rfl) ?_
  refine lv_iload_n hx hb dX3_rank_1 rfl (lv_at hl 1 rfl) ?_
  refine cs_i (W.runV (As := [.int p0]) (rest := []) ⟨hx, hb, hml, hown, hts⟩ (c_X3_isReal l dC dI cI cJ cZ b kd vl lo hi nd so fr tg gn nr kp ah kx st mo ma fa op nx p0 ) (cwV 1 hts gX3_rank_X3_isReal rfl rfl rfl (by decide +kernel) ⟨Nat.le_of_ble_eq_true rfl, Nat.le_of_ble_eq_true rfl⟩) (fb_v hK hP (va_recv hK hP (ci := 2) (q0 := 0) rfl rfl)) rfl rfl hl.1 rfl (lv_room (Nat.le_of_ble_eq_true rfl)) dX3_rank_2 ⟨Nat.zero_le _, Nat.zero_le _⟩) ?_
  refine lv_if_eq (tgt := 14) hx hb dX3_rank_5 (by decide) (fun c_1 => ?_) (fun c_1 => ?_)
  · skip
    refine lv_lload_n hx hb dX3_rank_14 rfl (lv_at hl 2 rfl) ?_
    exact W.lret (v := p1) hx hb hr (fun t ht hW => ⟨_, rfl, (by unfold m_rank; rw [if_pos c_1]), ht⟩) (fun _ h => by cases h) dX3_rank_15
  · skip
    refine lv_lload_n hx hb dX3_rank_8 rfl (lv_at hl 2 rfl) ?_
    refine lv_lconst (v := 0) hx hb dX3_rank_9 (by decide) ?_
    refine W.lcmp hx hb dX3_rank_10 ?_
    refine lv_if_lt (tgt := 16) hx hb dX3_rank_11 (by decide) (fun c_2 => ?_) (fun c_2 => ?_)
    · skip
      have c_2 : p1 < (0 : Int64) := (lg_cmp_lt _ _).mp c_2
      refine lv_iload_n hx hb dX3_rank_16 rfl (lv_at hl 1 rfl) ?_
      refine lv_iconst (v := 2) hx hb dX3_rank_17 (by decide) ?_
      refine lv_icmp_ne (tgt := 29) hx hb dX3_rank_18 (by decide) (fun c_3 => ?_) (fun c_3 => ?_)
      · skip
        refine lv_lload_n hx hb dX3_rank_29 rfl (lv_at hl 2 rfl) ?_
        refine lv_ldc2 hx hb hown k_0 dX3_rank_30 ?_
        refine lv_lxor hx hb dX3_rank_33 ?_
        exact W.lret (v := (p1 ^^^ (9223372036854775807 : Int64))) hx hb hr (fun t ht hW => ⟨_, rfl, (by unfold m_rank; rw [if_neg c_1, if_pos c_2, if_neg c_3]), ht⟩) (fun _ h => by cases h) dX3_rank_34
      · skip
        refine lv_lload_n hx hb dX3_rank_21 rfl (lv_at hl 2 rfl) ?_
        refine lv_ldc2 hx hb hown k_1 dX3_rank_22 ?_
        refine lv_lxor hx hb dX3_rank_25 ?_
        refine lv_goto (tgt := 34) hx hb dX3_rank_26 (by decide) ?_
        exact W.lret (v := (p1 ^^^ (2147483647 : Int64))) hx hb hr (fun t ht hW => ⟨_, rfl, (by unfold m_rank; rw [if_neg c_1, if_pos c_2, if_pos c_3]), ht⟩) (fun _ h => by cases h) dX3_rank_34
    · skip
      have c_2 : ¬ (p1 < (0 : Int64)) := fun h => c_2 ((lg_cmp_lt _ _).mpr h)
      refine lv_lload_n hx hb dX3_rank_14 rfl (lv_at hl 2 rfl) ?_
      exact W.lret (v := p1) hx hb hr (fun t ht hW => ⟨_, rfl, (by unfold m_rank; rw [if_neg c_1, if_neg c_2]), ht⟩) (fun _ h => by cases h) dX3_rank_15
def m_isAbove (p0 : Int32) (p1 : Int64) (p2 : Int64) : Int32 :=
  if (m_rank p0 p1) ≤ (m_rank p0 p2) then (0 : Int32)
  else (1 : Int32)
set_option maxHeartbeats 4000000 in
set_option maxRecDepth 100000 in
theorem c_X3_isAbove (l : Launch) (dC : Nat → ClassId) (dI : Nat → Nat → Nat) (cI cJ cZ : ClassId) (b : Nat → Nat) (kd : Nat → Int32) (vl : Nat → Int64) (lo : Nat → Int64) (hi : Nat → Int64) (nd : Int32) (so : Nat → Int32) (fr : Nat → Int32) (tg : Nat → Int32) (gn : Nat → Int32) (nr : Int32) (kp : Nat → Int64) (ah : Nat → Int64) (kx : Nat → Int32) (st : Int32) (mo : Int32) (ma : Int32) (fa : Int32) (op : Nat → Int32) (nx : Nat → Int32) (p0 : Int32) (p1 : Int64) (p2 : Int64) : Met l yX3_isAbove wsX3_isAbove ({ frames := 2, cells := 0, slots := 0, locals := 44 }) (va_Pc [.ref (b 0), .int p0, .long p1, .long p2] (fun U => va_P (dC, dI) vwCl (wM cI cJ cZ b kd vl lo hi nd so fr tg gn nr kp ah kx st mo ma fa op nx) U.heap ∧ va_K (dC, dI) vwCl (tA cI cJ cZ) U)) (vp_Si (fun r => r = m_isAbove p0 p1 p2)) 0 0 (fun _ => False) := by
  refine Met.ofW (cc := cX3_isAbove) (maxL := 6) (ret := (some .boolean)) (by decide) rfl ?_
  intro p e s m args below meth c s₁ B hml hv
  obtain ⟨rfl, hP, hK⟩ := hv
  have hx := B.exec
  have hb := B.bytes
  have hr := B.returns
  have hts := atoms_spec (ws := wsX3_isAbove) B.pre
  have hown : s.vm.findClass RX3 = some m.cls := findClass_of_methodNamed B.named
  have hlocks := B.notSynchronized
  have hl := lv_entry ([.ref (b 0), .int p0, .long p1, .long p2]) (n := 6) (Nat.le_of_ble_eq_true rfl)
  rw [lg_entry_eq]
  generalize (lg_sl ([.ref (b 0), .int p0, .long p1, .long p2]) ++ List.replicate (6 - (lg_sl ([.ref (b 0), .int p0, .long p1, .long p2])).length) Slot.unset).toArray = ls at hl ⊢
  have hl : lv_has ls 6 [(0, .ref (b 0)), (1, .int p0), (2, .long p1), (4, .long p2)] := hl
  refine lv_aload_n hx hb dX3_isAbove_0 rfl (lv_at hl 0 rfl) ?_
  refine lv_iload_n hx hb dX3_isAbove_1 rfl (lv_at hl 1 rfl) ?_
  refine lv_lload_n hx hb dX3_isAbove_2 rfl (lv_at hl 2 rfl) ?_
  refine cs_l (W.runV (As := [.int p0, .long p1]) (rest := []) ⟨hx, hb, hml, hown, hts⟩ (c_X3_rank l dC dI cI cJ cZ b kd vl lo hi nd so fr tg gn nr kp ah kx st mo ma fa op nx p0 p1 ) (cwV 2 hts gX3_isAbove_X3_rank rfl rfl rfl (by decide +kernel) ⟨Nat.le_of_ble_eq_true rfl, Nat.le_of_ble_eq_true rfl⟩) (fb_v hK hP (va_recv hK hP (ci := 2) (q0 := 0) rfl rfl)) rfl rfl hl.1 rfl (lv_room (Nat.le_of_ble_eq_true rfl)) dX3_isAbove_3 ⟨Nat.zero_le _, Nat.zero_le _⟩) ?_
  refine lv_aload_n hx hb dX3_isAbove_6 rfl (lv_at hl 0 rfl) ?_
  refine lv_iload_n hx hb dX3_isAbove_7 rfl (lv_at hl 1 rfl) ?_
  refine lv_lload hx hb dX3_isAbove_8 (lv_at hl 3 rfl) ?_
  refine cs_l (W.runV (As := [.int p0, .long p2]) (rest := [.long (m_rank p0 p1)]) ⟨hx, hb, hml, hown, hts⟩ (c_X3_rank l dC dI cI cJ cZ b kd vl lo hi nd so fr tg gn nr kp ah kx st mo ma fa op nx p0 p2 ) (cwV 2 hts gX3_isAbove_X3_rank rfl rfl rfl (by decide +kernel) ⟨Nat.le_of_ble_eq_true rfl, Nat.le_of_ble_eq_true rfl⟩) (fb_v hK hP (va_recv hK hP (ci := 2) (q0 := 0) rfl rfl)) rfl rfl hl.1 rfl (lv_room (Nat.le_of_ble_eq_true rfl)) dX3_isAbove_10 ⟨Nat.zero_le _, Nat.zero_le _⟩) ?_
  refine W.lcmp hx hb dX3_isAbove_13 ?_
  refine lv_if_le (tgt := 21) hx hb dX3_isAbove_14 (by decide) (fun c_1 => ?_) (fun c_1 => ?_)
  · skip
    have c_1 : (m_rank p0 p1) ≤ (m_rank p0 p2) := (lg_cmp_le _ _).mp c_1
    refine lv_iconst (v := 0) hx hb dX3_isAbove_21 (by decide) ?_
    exact W.zret (v := (0 : Int32)) hx hb hr (by first | rfl | decide | assumption) (fun t ht hW => ⟨_, rfl, (by unfold m_isAbove; rw [if_pos c_1]), ht⟩) (fun _ h => by cases h) dX3_isAbove_22
  · skip
    have c_1 : ¬ ((m_rank p0 p1) ≤ (m_rank p0 p2)) := fun h => c_1 ((lg_cmp_le _ _).mpr h)
    refine lv_iconst (v := 1) hx hb dX3_isAbove_17 (by decide) ?_
    refine lv_goto (tgt := 22) hx hb dX3_isAbove_18 (by decide) ?_
    exact W.zret (v := (1 : Int32)) hx hb hr (by first | rfl | decide | assumption) (fun t ht hW => ⟨_, rfl, (by unfold m_isAbove; rw [if_neg c_1]), ht⟩) (fun _ h => by cases h) dX3_isAbove_22
def m_greater (p0 : Int32) (p1 : Int64) (p2 : Int64) : Int64 :=
  if (m_isAbove p0 p2 p1) = 0 then p1
  else p2
set_option maxHeartbeats 4000000 in
set_option maxRecDepth 100000 in
theorem c_X3_greater (l : Launch) (dC : Nat → ClassId) (dI : Nat → Nat → Nat) (cI cJ cZ : ClassId) (b : Nat → Nat) (kd : Nat → Int32) (vl : Nat → Int64) (lo : Nat → Int64) (hi : Nat → Int64) (nd : Int32) (so : Nat → Int32) (fr : Nat → Int32) (tg : Nat → Int32) (gn : Nat → Int32) (nr : Int32) (kp : Nat → Int64) (ah : Nat → Int64) (kx : Nat → Int32) (st : Int32) (mo : Int32) (ma : Int32) (fa : Int32) (op : Nat → Int32) (nx : Nat → Int32) (p0 : Int32) (p1 : Int64) (p2 : Int64) : Met l yX3_greater wsX3_greater ({ frames := 3, cells := 0, slots := 0, locals := 69 }) (va_Pc [.ref (b 0), .int p0, .long p1, .long p2] (fun U => va_P (dC, dI) vwCl (wM cI cJ cZ b kd vl lo hi nd so fr tg gn nr kp ah kx st mo ma fa op nx) U.heap ∧ va_K (dC, dI) vwCl (tA cI cJ cZ) U)) (vp_Sl (fun r => r = m_greater p0 p1 p2)) 0 0 (fun _ => False) := by
  refine Met.ofW (cc := cX3_greater) (maxL := 6) (ret := (some .long)) (by decide) rfl ?_
  intro p e s m args below meth c s₁ B hml hv
  obtain ⟨rfl, hP, hK⟩ := hv
  have hx := B.exec
  have hb := B.bytes
  have hr := B.returns
  have hts := atoms_spec (ws := wsX3_greater) B.pre
  have hown : s.vm.findClass RX3 = some m.cls := findClass_of_methodNamed B.named
  have hlocks := B.notSynchronized
  have hl := lv_entry ([.ref (b 0), .int p0, .long p1, .long p2]) (n := 6) (Nat.le_of_ble_eq_true rfl)
  rw [lg_entry_eq]
  generalize (lg_sl ([.ref (b 0), .int p0, .long p1, .long p2]) ++ List.replicate (6 - (lg_sl ([.ref (b 0), .int p0, .long p1, .long p2])).length) Slot.unset).toArray = ls at hl ⊢
  have hl : lv_has ls 6 [(0, .ref (b 0)), (1, .int p0), (2, .long p1), (4, .long p2)] := hl
  refine lv_aload_n hx hb dX3_greater_0 rfl (lv_at hl 0 rfl) ?_
  refine lv_iload_n hx hb dX3_greater_1 rfl (lv_at hl 1 rfl) ?_
  refine lv_lload hx hb dX3_greater_2 (lv_at hl 3 rfl) ?_
  refine lv_lload_n hx hb dX3_greater_4 rfl (lv_at hl 2 rfl) ?_
  refine cs_i (W.runV (As := [.int p0, .long p2, .long p1]) (rest := []) ⟨hx, hb, hml, hown, hts⟩ (c_X3_isAbove l dC dI cI cJ cZ b kd vl lo hi nd so fr tg gn nr kp ah kx st mo ma fa op nx p0 p2 p1 ) (cwV 3 hts gX3_greater_X3_isAbove rfl rfl rfl (by decide +kernel) ⟨Nat.le_of_ble_eq_true rfl, Nat.le_of_ble_eq_true rfl⟩) (fb_v hK hP (va_recv hK hP (ci := 2) (q0 := 0) rfl rfl)) rfl rfl hl.1 rfl (lv_room (Nat.le_of_ble_eq_true rfl)) dX3_greater_5 ⟨Nat.zero_le _, Nat.zero_le _⟩) ?_
  refine lv_if_eq (tgt := 16) hx hb dX3_greater_8 (by decide) (fun c_1 => ?_) (fun c_1 => ?_)
  · skip
    refine lv_lload_n hx hb dX3_greater_16 rfl (lv_at hl 2 rfl) ?_
    exact W.lret (v := p1) hx hb hr (fun t ht hW => ⟨_, rfl, (by unfold m_greater; rw [if_pos c_1]), ht⟩) (fun _ h => by cases h) dX3_greater_17
  · skip
    refine lv_lload hx hb dX3_greater_11 (lv_at hl 3 rfl) ?_
    refine lv_goto (tgt := 17) hx hb dX3_greater_13 (by decide) ?_
    exact W.lret (v := p2) hx hb hr (fun t ht hW => ⟨_, rfl, (by unfold m_greater; rw [if_neg c_1]), ht⟩) (fun _ h => by cases h) dX3_greater_17
def m_less (p0 : Int32) (p1 : Int64) (p2 : Int64) : Int64 :=
  if (m_isAbove p0 p1 p2) = 0 then p1
  else p2
set_option maxHeartbeats 4000000 in
set_option maxRecDepth 100000 in
theorem c_X3_less (l : Launch) (dC : Nat → ClassId) (dI : Nat → Nat → Nat) (cI cJ cZ : ClassId) (b : Nat → Nat) (kd : Nat → Int32) (vl : Nat → Int64) (lo : Nat → Int64) (hi : Nat → Int64) (nd : Int32) (so : Nat → Int32) (fr : Nat → Int32) (tg : Nat → Int32) (gn : Nat → Int32) (nr : Int32) (kp : Nat → Int64) (ah : Nat → Int64) (kx : Nat → Int32) (st : Int32) (mo : Int32) (ma : Int32) (fa : Int32) (op : Nat → Int32) (nx : Nat → Int32) (p0 : Int32) (p1 : Int64) (p2 : Int64) : Met l yX3_less wsX3_less ({ frames := 3, cells := 0, slots := 0, locals := 69 }) (va_Pc [.ref (b 0), .int p0, .long p1, .long p2] (fun U => va_P (dC, dI) vwCl (wM cI cJ cZ b kd vl lo hi nd so fr tg gn nr kp ah kx st mo ma fa op nx) U.heap ∧ va_K (dC, dI) vwCl (tA cI cJ cZ) U)) (vp_Sl (fun r => r = m_less p0 p1 p2)) 0 0 (fun _ => False) := by
  refine Met.ofW (cc := cX3_less) (maxL := 6) (ret := (some .long)) (by decide) rfl ?_
  intro p e s m args below meth c s₁ B hml hv
  obtain ⟨rfl, hP, hK⟩ := hv
  have hx := B.exec
  have hb := B.bytes
  have hr := B.returns
  have hts := atoms_spec (ws := wsX3_less) B.pre
  have hown : s.vm.findClass RX3 = some m.cls := findClass_of_methodNamed B.named
  have hlocks := B.notSynchronized
  have hl := lv_entry ([.ref (b 0), .int p0, .long p1, .long p2]) (n := 6) (Nat.le_of_ble_eq_true rfl)
  rw [lg_entry_eq]
  generalize (lg_sl ([.ref (b 0), .int p0, .long p1, .long p2]) ++ List.replicate (6 - (lg_sl ([.ref (b 0), .int p0, .long p1, .long p2])).length) Slot.unset).toArray = ls at hl ⊢
  have hl : lv_has ls 6 [(0, .ref (b 0)), (1, .int p0), (2, .long p1), (4, .long p2)] := hl
  refine lv_aload_n hx hb dX3_less_0 rfl (lv_at hl 0 rfl) ?_
  refine lv_iload_n hx hb dX3_less_1 rfl (lv_at hl 1 rfl) ?_
  refine lv_lload_n hx hb dX3_less_2 rfl (lv_at hl 2 rfl) ?_
  refine lv_lload hx hb dX3_less_3 (lv_at hl 3 rfl) ?_
  refine cs_i (W.runV (As := [.int p0, .long p1, .long p2]) (rest := []) ⟨hx, hb, hml, hown, hts⟩ (c_X3_isAbove l dC dI cI cJ cZ b kd vl lo hi nd so fr tg gn nr kp ah kx st mo ma fa op nx p0 p1 p2 ) (cwV 3 hts gX3_less_X3_isAbove rfl rfl rfl (by decide +kernel) ⟨Nat.le_of_ble_eq_true rfl, Nat.le_of_ble_eq_true rfl⟩) (fb_v hK hP (va_recv hK hP (ci := 2) (q0 := 0) rfl rfl)) rfl rfl hl.1 rfl (lv_room (Nat.le_of_ble_eq_true rfl)) dX3_less_5 ⟨Nat.zero_le _, Nat.zero_le _⟩) ?_
  refine lv_if_eq (tgt := 16) hx hb dX3_less_8 (by decide) (fun c_1 => ?_) (fun c_1 => ?_)
  · skip
    refine lv_lload_n hx hb dX3_less_16 rfl (lv_at hl 2 rfl) ?_
    exact W.lret (v := p1) hx hb hr (fun t ht hW => ⟨_, rfl, (by unfold m_less; rw [if_pos c_1]), ht⟩) (fun _ h => by cases h) dX3_less_17
  · skip
    refine lv_lload hx hb dX3_less_11 (lv_at hl 3 rfl) ?_
    refine lv_goto (tgt := 17) hx hb dX3_less_13 (by decide) ?_
    exact W.lret (v := p2) hx hb hr (fun t ht hW => ⟨_, rfl, (by unfold m_less; rw [if_neg c_1]), ht⟩) (fun _ h => by cases h) dX3_less_17
def m_plain (p0 : Int32) (p1 : Int64) : Int64 :=
  if p0 = (2 : Int32) then (p1 &&& (2147483647 : Int64))
  else (p1 &&& (9223372036854775807 : Int64))
set_option maxHeartbeats 4000000 in
set_option maxRecDepth 100000 in
theorem c_X3_plain (l : Launch) (dC : Nat → ClassId) (dI : Nat → Nat → Nat) (cI cJ cZ : ClassId) (b : Nat → Nat) (kd : Nat → Int32) (vl : Nat → Int64) (lo : Nat → Int64) (hi : Nat → Int64) (nd : Int32) (so : Nat → Int32) (fr : Nat → Int32) (tg : Nat → Int32) (gn : Nat → Int32) (nr : Int32) (kp : Nat → Int64) (ah : Nat → Int64) (kx : Nat → Int32) (st : Int32) (mo : Int32) (ma : Int32) (fa : Int32) (op : Nat → Int32) (nx : Nat → Int32) (p0 : Int32) (p1 : Int64) : Met l yX3_plain wsX3_plain ({ frames := 0, cells := 0, slots := 0, locals := 0 }) (va_Pc [.ref (b 0), .int p0, .long p1] (fun U => va_P (dC, dI) vwCl (wM cI cJ cZ b kd vl lo hi nd so fr tg gn nr kp ah kx st mo ma fa op nx) U.heap ∧ va_K (dC, dI) vwCl (tA cI cJ cZ) U)) (vp_Sl (fun r => r = m_plain p0 p1)) 0 0 (fun _ => False) := by
  refine Met.ofW (cc := cX3_plain) (maxL := 4) (ret := (some .long)) (by decide) rfl ?_
  intro p e s m args below meth c s₁ B hml hv
  obtain ⟨rfl, hP, hK⟩ := hv
  have hx := B.exec
  have hb := B.bytes
  have hr := B.returns
  have hts := atoms_spec (ws := wsX3_plain) B.pre
  have hown : s.vm.findClass RX3 = some m.cls := findClass_of_methodNamed B.named
  have hlocks := B.notSynchronized
  have k_0 := hts (.constantLong RX3 62 (9223372036854775807)) (by decide +kernel)
  have k_1 := hts (.constantLong RX3 60 (2147483647)) (by decide +kernel)
  have hl := lv_entry ([.ref (b 0), .int p0, .long p1]) (n := 4) (Nat.le_of_ble_eq_true rfl)
  rw [lg_entry_eq]
  generalize (lg_sl ([.ref (b 0), .int p0, .long p1]) ++ List.replicate (4 - (lg_sl ([.ref (b 0), .int p0, .long p1])).length) Slot.unset).toArray = ls at hl ⊢
  have hl : lv_has ls 4 [(0, .ref (b 0)), (1, .int p0), (2, .long p1)] := hl
  refine lv_iload_n hx hb dX3_plain_0 rfl (lv_at hl 1 rfl) ?_
  refine lv_iconst (v := 2) hx hb dX3_plain_1 (by decide) ?_
  refine lv_icmp_ne (tgt := 13) hx hb dX3_plain_2 (by decide) (fun c_1 => ?_) (fun c_1 => ?_)
  · skip
    refine lv_lload_n hx hb dX3_plain_13 rfl (lv_at hl 2 rfl) ?_
    refine lv_ldc2 hx hb hown k_0 dX3_plain_14 ?_
    refine lv_land hx hb dX3_plain_17 ?_
    exact W.lret (v := (p1 &&& (9223372036854775807 : Int64))) hx hb hr (fun t ht hW => ⟨_, rfl, (by unfold m_plain; rw [if_neg c_1]), ht⟩) (fun _ h => by cases h) dX3_plain_18
  · skip
    refine lv_lload_n hx hb dX3_plain_5 rfl (lv_at hl 2 rfl) ?_
    refine lv_ldc2 hx hb hown k_1 dX3_plain_6 ?_
    refine lv_land hx hb dX3_plain_9 ?_
    refine lv_goto (tgt := 18) hx hb dX3_plain_10 (by decide) ?_
    exact W.lret (v := (p1 &&& (2147483647 : Int64))) hx hb hr (fun t ht hW => ⟨_, rfl, (by unfold m_plain; rw [if_pos c_1]), ht⟩) (fun _ h => by cases h) dX3_plain_18
def m_signed (p0 : Int32) (p1 : Int64) (p2 : Int64) : Int64 :=
  if p2 < (0 : Int64) then (if p0 = (2 : Int32) then (p1 - (2147483648 : Int64))
    else (p1 ||| (-9223372036854775808 : Int64)))
  else p1
set_option maxHeartbeats 4000000 in
set_option maxRecDepth 100000 in
theorem c_X3_signed (l : Launch) (dC : Nat → ClassId) (dI : Nat → Nat → Nat) (cI cJ cZ : ClassId) (b : Nat → Nat) (kd : Nat → Int32) (vl : Nat → Int64) (lo : Nat → Int64) (hi : Nat → Int64) (nd : Int32) (so : Nat → Int32) (fr : Nat → Int32) (tg : Nat → Int32) (gn : Nat → Int32) (nr : Int32) (kp : Nat → Int64) (ah : Nat → Int64) (kx : Nat → Int32) (st : Int32) (mo : Int32) (ma : Int32) (fa : Int32) (op : Nat → Int32) (nx : Nat → Int32) (p0 : Int32) (p1 : Int64) (p2 : Int64) : Met l yX3_signed wsX3_signed ({ frames := 0, cells := 0, slots := 0, locals := 0 }) (va_Pc [.ref (b 0), .int p0, .long p1, .long p2] (fun U => va_P (dC, dI) vwCl (wM cI cJ cZ b kd vl lo hi nd so fr tg gn nr kp ah kx st mo ma fa op nx) U.heap ∧ va_K (dC, dI) vwCl (tA cI cJ cZ) U)) (vp_Sl (fun r => r = m_signed p0 p1 p2)) 0 0 (fun _ => False) := by
  refine Met.ofW (cc := cX3_signed) (maxL := 6) (ret := (some .long)) (by decide) rfl ?_
  intro p e s m args below meth c s₁ B hml hv
  obtain ⟨rfl, hP, hK⟩ := hv
  have hx := B.exec
  have hb := B.bytes
  have hr := B.returns
  have hts := atoms_spec (ws := wsX3_signed) B.pre
  have hown : s.vm.findClass RX3 = some m.cls := findClass_of_methodNamed B.named
  have hlocks := B.notSynchronized
  have k_0 := hts (.constantLong RX3 86 (-9223372036854775808)) (by decide +kernel)
  have k_1 := hts (.constantLong RX3 84 (2147483648)) (by decide +kernel)
  have hl := lv_entry ([.ref (b 0), .int p0, .long p1, .long p2]) (n := 6) (Nat.le_of_ble_eq_true rfl)
  rw [lg_entry_eq]
  generalize (lg_sl ([.ref (b 0), .int p0, .long p1, .long p2]) ++ List.replicate (6 - (lg_sl ([.ref (b 0), .int p0, .long p1, .long p2])).length) Slot.unset).toArray = ls at hl ⊢
  have hl : lv_has ls 6 [(0, .ref (b 0)), (1, .int p0), (2, .long p1), (4, .long p2)] := hl
  refine lv_lload hx hb dX3_signed_0 (lv_at hl 3 rfl) ?_
  refine lv_lconst (v := 0) hx hb dX3_signed_2 (by decide) ?_
  refine W.lcmp hx hb dX3_signed_3 ?_
  refine lv_if_lt (tgt := 9) hx hb dX3_signed_4 (by decide) (fun c_1 => ?_) (fun c_1 => ?_)
  · skip
    have c_1 : p2 < (0 : Int64) := (lg_cmp_lt _ _).mp c_1
    refine lv_iload_n hx hb dX3_signed_9 rfl (lv_at hl 1 rfl) ?_
    refine lv_iconst (v := 2) hx hb dX3_signed_10 (by decide) ?_
    refine lv_icmp_ne (tgt := 22) hx hb dX3_signed_11 (by decide) (fun c_2 => ?_) (fun c_2 => ?_)
    · skip
      refine lv_lload_n hx hb dX3_signed_22 rfl (lv_at hl 2 rfl) ?_
      refine lv_ldc2 hx hb hown k_0 dX3_signed_23 ?_
      refine lv_lor hx hb dX3_signed_26 ?_
      exact W.lret (v := (p1 ||| (-9223372036854775808 : Int64))) hx hb hr (fun t ht hW => ⟨_, rfl, (by unfold m_signed; rw [if_pos c_1, if_neg c_2]), ht⟩) (fun _ h => by cases h) dX3_signed_27
    · skip
      refine lv_lload_n hx hb dX3_signed_14 rfl (lv_at hl 2 rfl) ?_
      refine lv_ldc2 hx hb hown k_1 dX3_signed_15 ?_
      refine lv_lsub hx hb dX3_signed_18 ?_
      refine lv_goto (tgt := 27) hx hb dX3_signed_19 (by decide) ?_
      exact W.lret (v := (p1 - (2147483648 : Int64))) hx hb hr (fun t ht hW => ⟨_, rfl, (by unfold m_signed; rw [if_pos c_1, if_pos c_2]), ht⟩) (fun _ h => by cases h) dX3_signed_27
  · skip
    have c_1 : ¬ (p2 < (0 : Int64)) := fun h => c_1 ((lg_cmp_lt _ _).mpr h)
    refine lv_lload_n hx hb dX3_signed_7 rfl (lv_at hl 2 rfl) ?_
    exact W.lret (v := p1) hx hb hr (fun t ht hW => ⟨_, rfl, (by unfold m_signed; rw [if_neg c_1]), ht⟩) (fun _ h => by cases h) dX3_signed_8
def m_sizeOf (p0 : Int32) (p1 : Int64) : Int64 :=
  if (m_isReal p0) = 0 then (if (0 : Int64) ≤ p1 then p1
    else if p0 = 0 then (if p1 = (-2147483648 : Int64) then p1
        else if p1 = (-9223372036854775808 : Int64) then p1
          else (-p1))
      else if p1 = (-9223372036854775808 : Int64) then p1
        else (-p1))
  else (m_plain p0 p1)
set_option maxHeartbeats 4000000 in
set_option maxRecDepth 100000 in
theorem c_X3_sizeOf (l : Launch) (dC : Nat → ClassId) (dI : Nat → Nat → Nat) (cI cJ cZ : ClassId) (b : Nat → Nat) (kd : Nat → Int32) (vl : Nat → Int64) (lo : Nat → Int64) (hi : Nat → Int64) (nd : Int32) (so : Nat → Int32) (fr : Nat → Int32) (tg : Nat → Int32) (gn : Nat → Int32) (nr : Int32) (kp : Nat → Int64) (ah : Nat → Int64) (kx : Nat → Int32) (st : Int32) (mo : Int32) (ma : Int32) (fa : Int32) (op : Nat → Int32) (nx : Nat → Int32) (p0 : Int32) (p1 : Int64) : Met l yX3_sizeOf wsX3_sizeOf ({ frames := 1, cells := 0, slots := 0, locals := 23 }) (va_Pc [.ref (b 0), .int p0, .long p1] (fun U => va_P (dC, dI) vwCl (wM cI cJ cZ b kd vl lo hi nd so fr tg gn nr kp ah kx st mo ma fa op nx) U.heap ∧ va_K (dC, dI) vwCl (tA cI cJ cZ) U)) (vp_Sl (fun r => r = m_sizeOf p0 p1)) 0 0 (fun _ => False) := by
  refine Met.ofW (cc := cX3_sizeOf) (maxL := 4) (ret := (some .long)) (by decide) rfl ?_
  intro p e s m args below meth c s₁ B hml hv
  obtain ⟨rfl, hP, hK⟩ := hv
  have hx := B.exec
  have hb := B.bytes
  have hr := B.returns
  have hts := atoms_spec (ws := wsX3_sizeOf) B.pre
  have hown : s.vm.findClass RX3 = some m.cls := findClass_of_methodNamed B.named
  have hlocks := B.notSynchronized
  have k_0 := hts (.constantLong RX3 86 (-9223372036854775808)) (by decide +kernel)
  have k_1 := hts (.constantLong RX3 58 (-2147483648)) (by decide +kernel)
  have hl := lv_entry ([.ref (b 0), .int p0, .long p1]) (n := 4) (Nat.le_of_ble_eq_true rfl)
  rw [lg_entry_eq]
  generalize (lg_sl ([.ref (b 0), .int p0, .long p1]) ++ List.replicate (4 - (lg_sl ([.ref (b 0), .int p0, .long p1])).length) Slot.unset).toArray = ls at hl ⊢
  have hl : lv_has ls 4 [(0, .ref (b 0)), (1, .int p0), (2, .long p1)] := hl
  refine lv_aload_n hx hb dX3_sizeOf_0 rfl (lv_at hl 0 rfl) ?_
  refine lv_iload_n hx hb dX3_sizeOf_1 rfl (lv_at hl 1 rfl) ?_
  refine cs_i (W.runV (As := [.int p0]) (rest := []) ⟨hx, hb, hml, hown, hts⟩ (c_X3_isReal l dC dI cI cJ cZ b kd vl lo hi nd so fr tg gn nr kp ah kx st mo ma fa op nx p0 ) (cwV 1 hts gX3_sizeOf_X3_isReal rfl rfl rfl (by decide +kernel) ⟨Nat.le_of_ble_eq_true rfl, Nat.le_of_ble_eq_true rfl⟩) (fb_v hK hP (va_recv hK hP (ci := 2) (q0 := 0) rfl rfl)) rfl rfl hl.1 rfl (lv_room (Nat.le_of_ble_eq_true rfl)) dX3_sizeOf_2 ⟨Nat.zero_le _, Nat.zero_le _⟩) ?_
  refine lv_if_eq (tgt := 15) hx hb dX3_sizeOf_5 (by decide) (fun c_1 => ?_) (fun c_1 => ?_)
  · skip
    refine lv_lload_n hx hb dX3_sizeOf_15 rfl (lv_at hl 2 rfl) ?_
    refine lv_lconst (v := 0) hx hb dX3_sizeOf_16 (by decide) ?_
    refine W.lcmp hx hb dX3_sizeOf_17 ?_
    refine lv_if_ge (tgt := 41) hx hb dX3_sizeOf_18 (by decide) (fun c_2 => ?_) (fun c_2 => ?_)
    · skip
      have c_2 : (0 : Int64) ≤ p1 := (lg_cmp_ge _ _).mp c_2
      refine lv_lload_n hx hb dX3_sizeOf_41 rfl (lv_at hl 2 rfl) ?_
      exact W.lret (v := p1) hx hb hr (fun t ht hW => ⟨_, rfl, (by unfold m_sizeOf; rw [if_pos c_1, if_pos c_2]), ht⟩) (fun _ h => by cases h) dX3_sizeOf_42
    · skip
      have c_2 : ¬ ((0 : Int64) ≤ p1) := fun h => c_2 ((lg_cmp_ge _ _).mpr h)
      refine lv_iload_n hx hb dX3_sizeOf_21 rfl (lv_at hl 1 rfl) ?_
      refine lv_if_ne (tgt := 33) hx hb dX3_sizeOf_22 (by decide) (fun c_3 => ?_) (fun c_3 => ?_)
      · skip
        refine lv_lload_n hx hb dX3_sizeOf_33 rfl (lv_at hl 2 rfl) ?_
        refine lv_ldc2 hx hb hown k_0 dX3_sizeOf_34 ?_
        refine W.lcmp hx hb dX3_sizeOf_37 ?_
        refine lv_if_ne (tgt := 43) hx hb dX3_sizeOf_38 (by decide) (fun c_4 => ?_) (fun c_4 => ?_)
        · skip
          have c_4 : ¬ (p1 = (-9223372036854775808 : Int64)) := fun h => c_4 ((lg_cmp_eq _ _).mpr h)
          refine lv_lload_n hx hb dX3_sizeOf_43 rfl (lv_at hl 2 rfl) ?_
          refine lv_lneg hx hb dX3_sizeOf_44 ?_
          exact W.lret (v := (-p1)) hx hb hr (fun t ht hW => ⟨_, rfl, (by unfold m_sizeOf; rw [if_pos c_1, if_neg c_2, if_neg c_3, if_neg c_4]), ht⟩) (fun _ h => by cases h) dX3_sizeOf_45
        · skip
          have c_4 : p1 = (-9223372036854775808 : Int64) := (lg_cmp_eq _ _).mp c_4
          refine lv_lload_n hx hb dX3_sizeOf_41 rfl (lv_at hl 2 rfl) ?_
          exact W.lret (v := p1) hx hb hr (fun t ht hW => ⟨_, rfl, (by unfold m_sizeOf; rw [if_pos c_1, if_neg c_2, if_neg c_3, if_pos c_4]), ht⟩) (fun _ h => by cases h) dX3_sizeOf_42
      · skip
        refine lv_lload_n hx hb dX3_sizeOf_25 rfl (lv_at hl 2 rfl) ?_
        refine lv_ldc2 hx hb hown k_1 dX3_sizeOf_26 ?_
        refine W.lcmp hx hb dX3_sizeOf_29 ?_
        refine lv_if_eq (tgt := 41) hx hb dX3_sizeOf_30 (by decide) (fun c_5 => ?_) (fun c_5 => ?_)
        · skip
          have c_5 : p1 = (-2147483648 : Int64) := (lg_cmp_eq _ _).mp c_5
          refine lv_lload_n hx hb dX3_sizeOf_41 rfl (lv_at hl 2 rfl) ?_
          exact W.lret (v := p1) hx hb hr (fun t ht hW => ⟨_, rfl, (by unfold m_sizeOf; rw [if_pos c_1, if_neg c_2, if_pos c_3, if_pos c_5]), ht⟩) (fun _ h => by cases h) dX3_sizeOf_42
        · skip
          have c_5 : ¬ (p1 = (-2147483648 : Int64)) := fun h => c_5 ((lg_cmp_eq _ _).mpr h)
          refine lv_lload_n hx hb dX3_sizeOf_33 rfl (lv_at hl 2 rfl) ?_
          refine lv_ldc2 hx hb hown k_0 dX3_sizeOf_34 ?_
          refine W.lcmp hx hb dX3_sizeOf_37 ?_
          refine lv_if_ne (tgt := 43) hx hb dX3_sizeOf_38 (by decide) (fun c_6 => ?_) (fun c_6 => ?_)
          · skip
            have c_6 : ¬ (p1 = (-9223372036854775808 : Int64)) := fun h => c_6 ((lg_cmp_eq _ _).mpr h)
            refine lv_lload_n hx hb dX3_sizeOf_43 rfl (lv_at hl 2 rfl) ?_
            refine lv_lneg hx hb dX3_sizeOf_44 ?_
            exact W.lret (v := (-p1)) hx hb hr (fun t ht hW => ⟨_, rfl, (by unfold m_sizeOf; rw [if_pos c_1, if_neg c_2, if_pos c_3, if_neg c_5, if_neg c_6]), ht⟩) (fun _ h => by cases h) dX3_sizeOf_45
          · skip
            have c_6 : p1 = (-9223372036854775808 : Int64) := (lg_cmp_eq _ _).mp c_6
            refine lv_lload_n hx hb dX3_sizeOf_41 rfl (lv_at hl 2 rfl) ?_
            exact W.lret (v := p1) hx hb hr (fun t ht hW => ⟨_, rfl, (by unfold m_sizeOf; rw [if_pos c_1, if_neg c_2, if_pos c_3, if_neg c_5, if_pos c_6]), ht⟩) (fun _ h => by cases h) dX3_sizeOf_42
  · skip
    refine lv_aload_n hx hb dX3_sizeOf_8 rfl (lv_at hl 0 rfl) ?_
    refine lv_iload_n hx hb dX3_sizeOf_9 rfl (lv_at hl 1 rfl) ?_
    refine lv_lload_n hx hb dX3_sizeOf_10 rfl (lv_at hl 2 rfl) ?_
    refine cs_l (W.runV (As := [.int p0, .long p1]) (rest := []) ⟨hx, hb, hml, hown, hts⟩ (c_X3_plain l dC dI cI cJ cZ b kd vl lo hi nd so fr tg gn nr kp ah kx st mo ma fa op nx p0 p1 ) (cwV 2 hts gX3_sizeOf_X3_plain rfl rfl rfl (by decide +kernel) ⟨Nat.le_of_ble_eq_true rfl, Nat.le_of_ble_eq_true rfl⟩) (fb_v hK hP (va_recv hK hP (ci := 2) (q0 := 0) rfl rfl)) rfl rfl hl.1 rfl (lv_room (Nat.le_of_ble_eq_true rfl)) dX3_sizeOf_11 ⟨Nat.zero_le _, Nat.zero_le _⟩) ?_
    exact W.lret (v := (m_plain p0 p1)) hx hb hr (fun t ht hW => ⟨_, rfl, (by unfold m_sizeOf; rw [if_neg c_1]), ht⟩) (fun _ h => by cases h) dX3_sizeOf_14
def m_one (p0 : Int32) : Int64 :=
  if p0 = (2 : Int32) then (1065353216 : Int64)
  else (4607182418800017408 : Int64)
set_option maxHeartbeats 4000000 in
set_option maxRecDepth 100000 in
theorem c_X3_one (l : Launch) (dC : Nat → ClassId) (dI : Nat → Nat → Nat) (cI cJ cZ : ClassId) (b : Nat → Nat) (kd : Nat → Int32) (vl : Nat → Int64) (lo : Nat → Int64) (hi : Nat → Int64) (nd : Int32) (so : Nat → Int32) (fr : Nat → Int32) (tg : Nat → Int32) (gn : Nat → Int32) (nr : Int32) (kp : Nat → Int64) (ah : Nat → Int64) (kx : Nat → Int32) (st : Int32) (mo : Int32) (ma : Int32) (fa : Int32) (op : Nat → Int32) (nx : Nat → Int32) (p0 : Int32) : Met l yX3_one wsX3_one ({ frames := 0, cells := 0, slots := 0, locals := 0 }) (va_Pc [.ref (b 0), .int p0] (fun U => va_P (dC, dI) vwCl (wM cI cJ cZ b kd vl lo hi nd so fr tg gn nr kp ah kx st mo ma fa op nx) U.heap ∧ va_K (dC, dI) vwCl (tA cI cJ cZ) U)) (vp_Sl (fun r => r = m_one p0)) 0 0 (fun _ => False) := by
  refine Met.ofW (cc := cX3_one) (maxL := 2) (ret := (some .long)) (by decide) rfl ?_
  intro p e s m args below meth c s₁ B hml hv
  obtain ⟨rfl, hP, hK⟩ := hv
  have hx := B.exec
  have hb := B.bytes
  have hr := B.returns
  have hts := atoms_spec (ws := wsX3_one) B.pre
  have hown : s.vm.findClass RX3 = some m.cls := findClass_of_methodNamed B.named
  have hlocks := B.notSynchronized
  have k_0 := hts (.constantLong RX3 93 (4607182418800017408)) (by decide +kernel)
  have k_1 := hts (.constantLong RX3 91 (1065353216)) (by decide +kernel)
  have hl := lv_entry ([.ref (b 0), .int p0]) (n := 2) (Nat.le_of_ble_eq_true rfl)
  rw [lg_entry_eq]
  generalize (lg_sl ([.ref (b 0), .int p0]) ++ List.replicate (2 - (lg_sl ([.ref (b 0), .int p0])).length) Slot.unset).toArray = ls at hl ⊢
  have hl : lv_has ls 2 [(0, .ref (b 0)), (1, .int p0)] := hl
  refine lv_iload_n hx hb dX3_one_0 rfl (lv_at hl 1 rfl) ?_
  refine lv_iconst (v := 2) hx hb dX3_one_1 (by decide) ?_
  refine lv_icmp_ne (tgt := 11) hx hb dX3_one_2 (by decide) (fun c_1 => ?_) (fun c_1 => ?_)
  · skip
    refine lv_ldc2 hx hb hown k_0 dX3_one_11 ?_
    exact W.lret (v := (4607182418800017408 : Int64)) hx hb hr (fun t ht hW => ⟨_, rfl, (by unfold m_one; rw [if_neg c_1]), ht⟩) (fun _ h => by cases h) dX3_one_14
  · skip
    refine lv_ldc2 hx hb hown k_1 dX3_one_5 ?_
    refine lv_goto (tgt := 14) hx hb dX3_one_8 (by decide) ?_
    exact W.lret (v := (1065353216 : Int64)) hx hb hr (fun t ht hW => ⟨_, rfl, (by unfold m_one; rw [if_pos c_1]), ht⟩) (fun _ h => by cases h) dX3_one_14
def m_isDial (nd : Int32) (p0 : Int32) : Int32 :=
  if p0 < 0 then (0 : Int32)
  else if nd ≤ p0 then (0 : Int32)
    else (1 : Int32)
set_option maxHeartbeats 4000000 in
set_option maxRecDepth 100000 in
theorem c_X3_isDial (l : Launch) (dC : Nat → ClassId) (dI : Nat → Nat → Nat) (cI cJ cZ : ClassId) (b : Nat → Nat) (kd : Nat → Int32) (vl : Nat → Int64) (lo : Nat → Int64) (hi : Nat → Int64) (nd : Int32) (so : Nat → Int32) (fr : Nat → Int32) (tg : Nat → Int32) (gn : Nat → Int32) (nr : Int32) (kp : Nat → Int64) (ah : Nat → Int64) (kx : Nat → Int32) (st : Int32) (mo : Int32) (ma : Int32) (fa : Int32) (op : Nat → Int32) (nx : Nat → Int32) (p0 : Int32) : Met l yX3_isDial wsX3_isDial ({ frames := 0, cells := 0, slots := 0, locals := 0 }) (va_Pc [.ref (b 0), .int p0] (fun U => va_P (dC, dI) vwCl (wM cI cJ cZ b kd vl lo hi nd so fr tg gn nr kp ah kx st mo ma fa op nx) U.heap ∧ va_K (dC, dI) vwCl (tA cI cJ cZ) U)) (vp_Si (fun r => r = m_isDial nd p0)) 0 0 (fun _ => False) := by
  refine Met.ofW (cc := cX3_isDial) (maxL := 2) (ret := (some .boolean)) (by decide) rfl ?_
  intro p e s m args below meth c s₁ B hml hv
  obtain ⟨rfl, hP, hK⟩ := hv
  have hx := B.exec
  have hb := B.bytes
  have hr := B.returns
  have hts := atoms_spec (ws := wsX3_isDial) B.pre
  have hown : s.vm.findClass RX3 = some m.cls := findClass_of_methodNamed B.named
  have hlocks := B.notSynchronized
  have h_inX3 : ∀ w ∈ wsX30, w ∈ wsX3_isDial := fun _ h => List.mem_cons_of_mem _ (List.mem_append_right _ h)
  have k_0 := hts (.fieldLink RX3 51 "DetentCabinetModel" "dials" "I") (by decide +kernel)
  have hl := lv_entry ([.ref (b 0), .int p0]) (n := 2) (Nat.le_of_ble_eq_true rfl)
  rw [lg_entry_eq]
  generalize (lg_sl ([.ref (b 0), .int p0]) ++ List.replicate (2 - (lg_sl ([.ref (b 0), .int p0])).length) Slot.unset).toArray = ls at hl ⊢
  have hl : lv_has ls 2 [(0, .ref (b 0)), (1, .int p0)] := hl
  refine lv_iload_n hx hb dX3_isDial_0 rfl (lv_at hl 1 rfl) ?_
  refine lv_if_lt (tgt := 16) hx hb dX3_isDial_1 (by decide) (fun c_1 => ?_) (fun c_1 => ?_)
  · skip
    refine lv_iconst (v := 0) hx hb dX3_isDial_16 (by decide) ?_
    exact W.zret (v := (0 : Int32)) hx hb hr (by first | rfl | decide | assumption) (fun t ht hW => ⟨_, rfl, (by unfold m_isDial; rw [if_pos c_1]), ht⟩) (fun _ h => by cases h) dX3_isDial_17
  · skip
    refine lv_iload_n hx hb dX3_isDial_4 rfl (lv_at hl 1 rfl) ?_
    refine lv_aload_n hx hb dX3_isDial_5 rfl (lv_at hl 0 rfl) ?_
    refine va_get (D := (dC, dI)) (ci := 2) (v := .int nd) (C := RX3) (T := TX3) (N := 19) hx hb hts h_inX3 hown hK hP 0 rfl rfl 4 (by decide) k_0 (fun _ h9 => h9) rfl dX3_isDial_6 ?_
    refine lv_icmp_ge (tgt := 16) hx hb dX3_isDial_9 (by decide) (fun c_2 => ?_) (fun c_2 => ?_)
    · skip
      refine lv_iconst (v := 0) hx hb dX3_isDial_16 (by decide) ?_
      exact W.zret (v := (0 : Int32)) hx hb hr (by first | rfl | decide | assumption) (fun t ht hW => ⟨_, rfl, (by unfold m_isDial; rw [if_neg c_1, if_pos c_2]), ht⟩) (fun _ h => by cases h) dX3_isDial_17
    · skip
      refine lv_iconst (v := 1) hx hb dX3_isDial_12 (by decide) ?_
      refine lv_goto (tgt := 17) hx hb dX3_isDial_13 (by decide) ?_
      exact W.zret (v := (1 : Int32)) hx hb hr (by first | rfl | decide | assumption) (fun t ht hW => ⟨_, rfl, (by unfold m_isDial; rw [if_neg c_1, if_neg c_2]), ht⟩) (fun _ h => by cases h) dX3_isDial_17
theorem isDialm_iff {nd d : Int32} : ¬ m_isDial nd d = 0 ↔ (0 ≤ d ∧ d < nd) := by
  unfold m_isDial
  by_cases h1 : d < 0
  · rw [if_pos h1]
    exact ⟨fun h => absurd rfl h, fun h => absurd h1 (Int32.not_lt.mpr h.1)⟩
  · rw [if_neg h1]
    by_cases h2 : nd ≤ d
    · rw [if_pos h2]
      exact ⟨fun h => absurd rfl h, fun h => absurd h.2 (Int32.not_lt.mpr h2)⟩
    · rw [if_neg h2]
      exact ⟨fun _ => ⟨Int32.not_lt.mp h1, Int32.not_le.mp h2⟩, fun _ => by decide⟩
theorem in_dm {nd d : Int32} (hn : nd ≤ 16) (h : ¬ m_isDial nd d = 0) : vp_in d 16 := by
  obtain ⟨h1, h2⟩ := isDialm_iff.mp h
  rw [vp_in_iff]
  rw [Int32.le_iff_toInt_le] at h1 hn
  rw [Int32.lt_iff_toInt_lt] at h2
  have e0 : (0 : Int32).toInt = 0 := by decide
  have e16 : (16 : Int32).toInt = 16 := by decide
  omega
end
section
def m_fitted (kd : Nat → Int32) (lo : Nat → Int64) (hi : Nat → Int64) (p0 : Int32) (p1 : Int64) : Int64 :=
  (m_greater (kd p0.toNatClampNeg) (lo p0.toNatClampNeg) (m_less (kd p0.toNatClampNeg) (hi p0.toNatClampNeg) p1))
set_option maxHeartbeats 4000000 in
set_option maxRecDepth 100000 in
theorem c_X3_fitted (l : Launch) (dC : Nat → ClassId) (dI : Nat → Nat → Nat) (cI cJ cZ : ClassId) (b : Nat → Nat) (kd : Nat → Int32) (vl : Nat → Int64) (lo : Nat → Int64) (hi : Nat → Int64) (nd : Int32) (so : Nat → Int32) (fr : Nat → Int32) (tg : Nat → Int32) (gn : Nat → Int32) (nr : Int32) (kp : Nat → Int64) (ah : Nat → Int64) (kx : Nat → Int32) (st : Int32) (mo : Int32) (ma : Int32) (fa : Int32) (op : Nat → Int32) (nx : Nat → Int32) (p0 : Int32) (p1 : Int64) (hd : vp_in p0 16) : Met l yX3_fitted wsX3_fitted ({ frames := 4, cells := 0, slots := 0, locals := 94 }) (va_Pc [.ref (b 0), .int p0, .long p1] (fun U => va_P (dC, dI) vwCl (wM cI cJ cZ b kd vl lo hi nd so fr tg gn nr kp ah kx st mo ma fa op nx) U.heap ∧ va_K (dC, dI) vwCl (tA cI cJ cZ) U)) (vp_Sl (fun r => r = m_fitted kd lo hi p0 p1)) 0 0 (fun _ => False) := by
  refine Met.ofW (cc := cX3_fitted) (maxL := 5) (ret := (some .long)) (by decide) rfl ?_
  intro p e s m args below meth c s₁ B hml hv
  obtain ⟨rfl, hP, hK⟩ := hv
  have hx := B.exec
  have hb := B.bytes
  have hr := B.returns
  have hts := atoms_spec (ws := wsX3_fitted) B.pre
  have hown : s.vm.findClass RX3 = some m.cls := findClass_of_methodNamed B.named
  have hlocks := B.notSynchronized
  have h_inX3 : ∀ w ∈ wsX30, w ∈ wsX3_fitted := fun _ h => List.mem_cons_of_mem _ (List.mem_append_right _ h)
  have k_0 := hts (.fieldLink RX3 7 "DetentCabinetModel" "kind" "[I") (by decide +kernel)
  have k_1 := hts (.fieldLink RX3 17 "DetentCabinetModel" "low" "[J") (by decide +kernel)
  have k_2 := hts (.fieldLink RX3 20 "DetentCabinetModel" "high" "[J") (by decide +kernel)
  have hl := lv_entry ([.ref (b 0), .int p0, .long p1]) (n := 5) (Nat.le_of_ble_eq_true rfl)
  rw [lg_entry_eq]
  generalize (lg_sl ([.ref (b 0), .int p0, .long p1]) ++ List.replicate (5 - (lg_sl ([.ref (b 0), .int p0, .long p1])).length) Slot.unset).toArray = ls at hl ⊢
  have hl : lv_has ls 5 [(0, .ref (b 0)), (1, .int p0), (2, .long p1)] := hl
  refine lv_aload_n hx hb dX3_fitted_0 rfl (lv_at hl 0 rfl) ?_
  refine va_get (D := (dC, dI)) (ci := 2) (v := .ref (b 1)) (C := RX3) (T := TX3) (N := 19) hx hb hts h_inX3 hown hK hP 0 rfl rfl 0 (by decide) k_0 (fun _ h9 => h9) rfl dX3_fitted_1 ?_
  refine lv_iload_n hx hb dX3_fitted_4 rfl (lv_at hl 1 rfl) ?_
  refine va_iald hx hb hK hP 1 0 rfl rfl (by assumption) dX3_fitted_5 ?_
  refine lv_istore (lv' := [(4, .int (kd p0.toNatClampNeg)), (0, .ref (b 0)), (1, .int p0), (2, .long p1)]) hx hb dX3_fitted_6 hl (by decide) rfl (fun ls hl => ?_)
  refine lv_aload_n hx hb dX3_fitted_8 rfl (lv_at hl 1 rfl) ?_
  refine lv_iload hx hb dX3_fitted_9 (lv_at hl 0 rfl) ?_
  refine lv_aload_n hx hb dX3_fitted_11 rfl (lv_at hl 1 rfl) ?_
  refine va_get (D := (dC, dI)) (ci := 2) (v := .ref (b 3)) (C := RX3) (T := TX3) (N := 19) hx hb hts h_inX3 hown hK hP 0 rfl rfl 2 (by decide) k_1 (fun _ h9 => h9) rfl dX3_fitted_12 ?_
  refine lv_iload_n hx hb dX3_fitted_15 rfl (lv_at hl 2 rfl) ?_
  refine va_lald hx hb hK hP 3 1 rfl rfl (by assumption) dX3_fitted_16 ?_
  refine lv_aload_n hx hb dX3_fitted_17 rfl (lv_at hl 1 rfl) ?_
  refine lv_iload hx hb dX3_fitted_18 (lv_at hl 0 rfl) ?_
  refine lv_aload_n hx hb dX3_fitted_20 rfl (lv_at hl 1 rfl) ?_
  refine va_get (D := (dC, dI)) (ci := 2) (v := .ref (b 4)) (C := RX3) (T := TX3) (N := 19) hx hb hts h_inX3 hown hK hP 0 rfl rfl 3 (by decide) k_2 (fun _ h9 => h9) rfl dX3_fitted_21 ?_
  refine lv_iload_n hx hb dX3_fitted_24 rfl (lv_at hl 2 rfl) ?_
  refine va_lald hx hb hK hP 4 1 rfl rfl (by assumption) dX3_fitted_25 ?_
  refine lv_lload_n hx hb dX3_fitted_26 rfl (lv_at hl 3 rfl) ?_
  refine cs_l (W.runV (As := [.int (kd p0.toNatClampNeg), .long (hi p0.toNatClampNeg), .long p1]) (rest := [.long (lo p0.toNatClampNeg), .int (kd p0.toNatClampNeg), .ref (b 0)]) ⟨hx, hb, hml, hown, hts⟩ (c_X3_less l dC dI cI cJ cZ b kd vl lo hi nd so fr tg gn nr kp ah kx st mo ma fa op nx (kd p0.toNatClampNeg) (hi p0.toNatClampNeg) p1 ) (cwV 3 hts gX3_fitted_X3_less rfl rfl rfl (by decide +kernel) ⟨Nat.le_of_ble_eq_true rfl, Nat.le_of_ble_eq_true rfl⟩) (fb_v hK hP (va_recv hK hP (ci := 2) (q0 := 0) rfl rfl)) rfl rfl hl.1 rfl (lv_room (Nat.le_of_ble_eq_true rfl)) dX3_fitted_27 ⟨Nat.zero_le _, Nat.zero_le _⟩) ?_
  refine cs_l (W.runV (As := [.int (kd p0.toNatClampNeg), .long (lo p0.toNatClampNeg), .long (m_less (kd p0.toNatClampNeg) (hi p0.toNatClampNeg) p1)]) (rest := []) ⟨hx, hb, hml, hown, hts⟩ (c_X3_greater l dC dI cI cJ cZ b kd vl lo hi nd so fr tg gn nr kp ah kx st mo ma fa op nx (kd p0.toNatClampNeg) (lo p0.toNatClampNeg) (m_less (kd p0.toNatClampNeg) (hi p0.toNatClampNeg) p1) ) (cwV 3 hts gX3_fitted_X3_greater rfl rfl rfl (by decide +kernel) ⟨Nat.le_of_ble_eq_true rfl, Nat.le_of_ble_eq_true rfl⟩) (fb_v hK hP (va_recv hK hP (ci := 2) (q0 := 0) rfl rfl)) rfl rfl hl.1 rfl (lv_room (Nat.le_of_ble_eq_true rfl)) dX3_fitted_30 ⟨Nat.zero_le _, Nat.zero_le _⟩) ?_
  exact W.lret (v := (m_greater (kd p0.toNatClampNeg) (lo p0.toNatClampNeg) (m_less (kd p0.toNatClampNeg) (hi p0.toNatClampNeg) p1))) hx hb hr (fun t ht hW => ⟨_, rfl, rfl, ht⟩) (fun _ h => by cases h) dX3_fitted_33
def m_gives (kd : Nat → Int32) (vl : Nat → Int64) (p0 : Int32) (p1 : Int32) (p2 : Int32) : Int64 :=
  if p0 = 0 then (m_greater (kd p1.toNatClampNeg) (vl p1.toNatClampNeg) (vl p2.toNatClampNeg))
  else if p0 = (1 : Int32) then (m_less (kd p1.toNatClampNeg) (vl p1.toNatClampNeg) (vl p2.toNatClampNeg))
    else if p0 = (2 : Int32) then (m_signed (kd p1.toNatClampNeg) (m_plain (kd p1.toNatClampNeg) (vl p2.toNatClampNeg)) (vl p1.toNatClampNeg))
      else (m_sizeOf (kd p1.toNatClampNeg) (vl p1.toNatClampNeg))
set_option maxHeartbeats 4000000 in
set_option maxRecDepth 100000 in
theorem c_X3_gives (l : Launch) (dC : Nat → ClassId) (dI : Nat → Nat → Nat) (cI cJ cZ : ClassId) (b : Nat → Nat) (kd : Nat → Int32) (vl : Nat → Int64) (lo : Nat → Int64) (hi : Nat → Int64) (nd : Int32) (so : Nat → Int32) (fr : Nat → Int32) (tg : Nat → Int32) (gn : Nat → Int32) (nr : Int32) (kp : Nat → Int64) (ah : Nat → Int64) (kx : Nat → Int32) (st : Int32) (mo : Int32) (ma : Int32) (fa : Int32) (op : Nat → Int32) (nx : Nat → Int32) (p0 : Int32) (p1 : Int32) (p2 : Int32) (hf : vp_in p1 16) (ht : vp_in p2 16) : Met l yX3_gives wsX3_gives ({ frames := 4, cells := 0, slots := 0, locals := 94 }) (va_Pc [.ref (b 0), .int p0, .int p1, .int p2] (fun U => va_P (dC, dI) vwCl (wM cI cJ cZ b kd vl lo hi nd so fr tg gn nr kp ah kx st mo ma fa op nx) U.heap ∧ va_K (dC, dI) vwCl (tA cI cJ cZ) U)) (vp_Sl (fun r => r = m_gives kd vl p0 p1 p2)) 0 0 (fun _ => False) := by
  refine Met.ofW (cc := cX3_gives) (maxL := 5) (ret := (some .long)) (by decide) rfl ?_
  intro p e s m args below meth c s₁ B hml hv
  obtain ⟨rfl, hP, hK⟩ := hv
  have hx := B.exec
  have hb := B.bytes
  have hr := B.returns
  have hts := atoms_spec (ws := wsX3_gives) B.pre
  have hown : s.vm.findClass RX3 = some m.cls := findClass_of_methodNamed B.named
  have hlocks := B.notSynchronized
  have h_inX3 : ∀ w ∈ wsX30, w ∈ wsX3_gives := fun _ h => List.mem_cons_of_mem _ (List.mem_append_right _ h)
  have k_0 := hts (.fieldLink RX3 7 "DetentCabinetModel" "kind" "[I") (by decide +kernel)
  have k_1 := hts (.fieldLink RX3 13 "DetentCabinetModel" "value" "[J") (by decide +kernel)
  have hl := lv_entry ([.ref (b 0), .int p0, .int p1, .int p2]) (n := 5) (Nat.le_of_ble_eq_true rfl)
  rw [lg_entry_eq]
  generalize (lg_sl ([.ref (b 0), .int p0, .int p1, .int p2]) ++ List.replicate (5 - (lg_sl ([.ref (b 0), .int p0, .int p1, .int p2])).length) Slot.unset).toArray = ls at hl ⊢
  have hl : lv_has ls 5 [(0, .ref (b 0)), (1, .int p0), (2, .int p1), (3, .int p2)] := hl
  refine lv_aload_n hx hb dX3_gives_0 rfl (lv_at hl 0 rfl) ?_
  refine va_get (D := (dC, dI)) (ci := 2) (v := .ref (b 1)) (C := RX3) (T := TX3) (N := 19) hx hb hts h_inX3 hown hK hP 0 rfl rfl 0 (by decide) k_0 (fun _ h9 => h9) rfl dX3_gives_1 ?_
  refine lv_iload_n hx hb dX3_gives_4 rfl (lv_at hl 2 rfl) ?_
  refine va_iald hx hb hK hP 1 0 rfl rfl (by assumption) dX3_gives_5 ?_
  refine lv_istore (lv' := [(4, .int (kd p1.toNatClampNeg)), (0, .ref (b 0)), (1, .int p0), (2, .int p1), (3, .int p2)]) hx hb dX3_gives_6 hl (by decide) rfl (fun ls hl => ?_)
  refine lv_iload_n hx hb dX3_gives_8 rfl (lv_at hl 2 rfl) ?_
  refine lv_if_ne (tgt := 31) hx hb dX3_gives_9 (by decide) (fun c_1 => ?_) (fun c_1 => ?_)
  · skip
    refine lv_iload_n hx hb dX3_gives_31 rfl (lv_at hl 2 rfl) ?_
    refine lv_iconst (v := 1) hx hb dX3_gives_32 (by decide) ?_
    refine lv_icmp_ne (tgt := 55) hx hb dX3_gives_33 (by decide) (fun c_2 => ?_) (fun c_2 => ?_)
    · skip
      refine lv_iload_n hx hb dX3_gives_55 rfl (lv_at hl 2 rfl) ?_
      refine lv_iconst (v := 2) hx hb dX3_gives_56 (by decide) ?_
      refine lv_icmp_ne (tgt := 85) hx hb dX3_gives_57 (by decide) (fun c_3 => ?_) (fun c_3 => ?_)
      · skip
        refine lv_aload_n hx hb dX3_gives_85 rfl (lv_at hl 1 rfl) ?_
        refine lv_iload hx hb dX3_gives_86 (lv_at hl 0 rfl) ?_
        refine lv_aload_n hx hb dX3_gives_88 rfl (lv_at hl 1 rfl) ?_
        refine va_get (D := (dC, dI)) (ci := 2) (v := .ref (b 2)) (C := RX3) (T := TX3) (N := 19) hx hb hts h_inX3 hown hK hP 0 rfl rfl 1 (by decide) k_1 (fun _ h9 => h9) rfl dX3_gives_89 ?_
        refine lv_iload_n hx hb dX3_gives_92 rfl (lv_at hl 3 rfl) ?_
        refine va_lald hx hb hK hP 2 1 rfl rfl (by assumption) dX3_gives_93 ?_
        refine cs_l (W.runV (As := [.int (kd p1.toNatClampNeg), .long (vl p1.toNatClampNeg)]) (rest := []) ⟨hx, hb, hml, hown, hts⟩ (c_X3_sizeOf l dC dI cI cJ cZ b kd vl lo hi nd so fr tg gn nr kp ah kx st mo ma fa op nx (kd p1.toNatClampNeg) (vl p1.toNatClampNeg) ) (cwV 2 hts gX3_gives_X3_sizeOf rfl rfl rfl (by decide +kernel) ⟨Nat.le_of_ble_eq_true rfl, Nat.le_of_ble_eq_true rfl⟩) (fb_v hK hP (va_recv hK hP (ci := 2) (q0 := 0) rfl rfl)) rfl rfl hl.1 rfl (lv_room (Nat.le_of_ble_eq_true rfl)) dX3_gives_94 ⟨Nat.zero_le _, Nat.zero_le _⟩) ?_
        exact W.lret (v := (m_sizeOf (kd p1.toNatClampNeg) (vl p1.toNatClampNeg))) hx hb hr (fun t ht hW => ⟨_, rfl, (by unfold m_gives; rw [if_neg c_1, if_neg c_2, if_neg c_3]), ht⟩) (fun _ h => by cases h) dX3_gives_97
      · skip
        refine lv_aload_n hx hb dX3_gives_60 rfl (lv_at hl 1 rfl) ?_
        refine lv_iload hx hb dX3_gives_61 (lv_at hl 0 rfl) ?_
        refine lv_aload_n hx hb dX3_gives_63 rfl (lv_at hl 1 rfl) ?_
        refine lv_iload hx hb dX3_gives_64 (lv_at hl 0 rfl) ?_
        refine lv_aload_n hx hb dX3_gives_66 rfl (lv_at hl 1 rfl) ?_
        refine va_get (D := (dC, dI)) (ci := 2) (v := .ref (b 2)) (C := RX3) (T := TX3) (N := 19) hx hb hts h_inX3 hown hK hP 0 rfl rfl 1 (by decide) k_1 (fun _ h9 => h9) rfl dX3_gives_67 ?_
        refine lv_iload_n hx hb dX3_gives_70 rfl (lv_at hl 4 rfl) ?_
        refine va_lald hx hb hK hP 2 1 rfl rfl (by assumption) dX3_gives_71 ?_
        refine cs_l (W.runV (As := [.int (kd p1.toNatClampNeg), .long (vl p2.toNatClampNeg)]) (rest := [.int (kd p1.toNatClampNeg), .ref (b 0)]) ⟨hx, hb, hml, hown, hts⟩ (c_X3_plain l dC dI cI cJ cZ b kd vl lo hi nd so fr tg gn nr kp ah kx st mo ma fa op nx (kd p1.toNatClampNeg) (vl p2.toNatClampNeg) ) (cwV 2 hts gX3_gives_X3_plain rfl rfl rfl (by decide +kernel) ⟨Nat.le_of_ble_eq_true rfl, Nat.le_of_ble_eq_true rfl⟩) (fb_v hK hP (va_recv hK hP (ci := 2) (q0 := 0) rfl rfl)) rfl rfl hl.1 rfl (lv_room (Nat.le_of_ble_eq_true rfl)) dX3_gives_72 ⟨Nat.zero_le _, Nat.zero_le _⟩) ?_
        refine lv_aload_n hx hb dX3_gives_75 rfl (lv_at hl 1 rfl) ?_
        refine va_get (D := (dC, dI)) (ci := 2) (v := .ref (b 2)) (C := RX3) (T := TX3) (N := 19) hx hb hts h_inX3 hown hK hP 0 rfl rfl 1 (by decide) k_1 (fun _ h9 => h9) rfl dX3_gives_76 ?_
        refine lv_iload_n hx hb dX3_gives_79 rfl (lv_at hl 3 rfl) ?_
        refine va_lald hx hb hK hP 2 1 rfl rfl (by assumption) dX3_gives_80 ?_
        refine cs_l (W.runV (As := [.int (kd p1.toNatClampNeg), .long (m_plain (kd p1.toNatClampNeg) (vl p2.toNatClampNeg)), .long (vl p1.toNatClampNeg)]) (rest := []) ⟨hx, hb, hml, hown, hts⟩ (c_X3_signed l dC dI cI cJ cZ b kd vl lo hi nd so fr tg gn nr kp ah kx st mo ma fa op nx (kd p1.toNatClampNeg) (m_plain (kd p1.toNatClampNeg) (vl p2.toNatClampNeg)) (vl p1.toNatClampNeg) ) (cwV 3 hts gX3_gives_X3_signed rfl rfl rfl (by decide +kernel) ⟨Nat.le_of_ble_eq_true rfl, Nat.le_of_ble_eq_true rfl⟩) (fb_v hK hP (va_recv hK hP (ci := 2) (q0 := 0) rfl rfl)) rfl rfl hl.1 rfl (lv_room (Nat.le_of_ble_eq_true rfl)) dX3_gives_81 ⟨Nat.zero_le _, Nat.zero_le _⟩) ?_
        exact W.lret (v := (m_signed (kd p1.toNatClampNeg) (m_plain (kd p1.toNatClampNeg) (vl p2.toNatClampNeg)) (vl p1.toNatClampNeg))) hx hb hr (fun t ht hW => ⟨_, rfl, (by unfold m_gives; rw [if_neg c_1, if_neg c_2, if_pos c_3]), ht⟩) (fun _ h => by cases h) dX3_gives_84
    · skip
      refine lv_aload_n hx hb dX3_gives_36 rfl (lv_at hl 1 rfl) ?_
      refine lv_iload hx hb dX3_gives_37 (lv_at hl 0 rfl) ?_
      refine lv_aload_n hx hb dX3_gives_39 rfl (lv_at hl 1 rfl) ?_
      refine va_get (D := (dC, dI)) (ci := 2) (v := .ref (b 2)) (C := RX3) (T := TX3) (N := 19) hx hb hts h_inX3 hown hK hP 0 rfl rfl 1 (by decide) k_1 (fun _ h9 => h9) rfl dX3_gives_40 ?_
      refine lv_iload_n hx hb dX3_gives_43 rfl (lv_at hl 3 rfl) ?_
      refine va_lald hx hb hK hP 2 1 rfl rfl (by assumption) dX3_gives_44 ?_
      refine lv_aload_n hx hb dX3_gives_45 rfl (lv_at hl 1 rfl) ?_
      refine va_get (D := (dC, dI)) (ci := 2) (v := .ref (b 2)) (C := RX3) (T := TX3) (N := 19) hx hb hts h_inX3 hown hK hP 0 rfl rfl 1 (by decide) k_1 (fun _ h9 => h9) rfl dX3_gives_46 ?_
      refine lv_iload_n hx hb dX3_gives_49 rfl (lv_at hl 4 rfl) ?_
      refine va_lald hx hb hK hP 2 1 rfl rfl (by assumption) dX3_gives_50 ?_
      refine cs_l (W.runV (As := [.int (kd p1.toNatClampNeg), .long (vl p1.toNatClampNeg), .long (vl p2.toNatClampNeg)]) (rest := []) ⟨hx, hb, hml, hown, hts⟩ (c_X3_less l dC dI cI cJ cZ b kd vl lo hi nd so fr tg gn nr kp ah kx st mo ma fa op nx (kd p1.toNatClampNeg) (vl p1.toNatClampNeg) (vl p2.toNatClampNeg) ) (cwV 3 hts gX3_gives_X3_less rfl rfl rfl (by decide +kernel) ⟨Nat.le_of_ble_eq_true rfl, Nat.le_of_ble_eq_true rfl⟩) (fb_v hK hP (va_recv hK hP (ci := 2) (q0 := 0) rfl rfl)) rfl rfl hl.1 rfl (lv_room (Nat.le_of_ble_eq_true rfl)) dX3_gives_51 ⟨Nat.zero_le _, Nat.zero_le _⟩) ?_
      exact W.lret (v := (m_less (kd p1.toNatClampNeg) (vl p1.toNatClampNeg) (vl p2.toNatClampNeg))) hx hb hr (fun t ht hW => ⟨_, rfl, (by unfold m_gives; rw [if_neg c_1, if_pos c_2]), ht⟩) (fun _ h => by cases h) dX3_gives_54
  · skip
    refine lv_aload_n hx hb dX3_gives_12 rfl (lv_at hl 1 rfl) ?_
    refine lv_iload hx hb dX3_gives_13 (lv_at hl 0 rfl) ?_
    refine lv_aload_n hx hb dX3_gives_15 rfl (lv_at hl 1 rfl) ?_
    refine va_get (D := (dC, dI)) (ci := 2) (v := .ref (b 2)) (C := RX3) (T := TX3) (N := 19) hx hb hts h_inX3 hown hK hP 0 rfl rfl 1 (by decide) k_1 (fun _ h9 => h9) rfl dX3_gives_16 ?_
    refine lv_iload_n hx hb dX3_gives_19 rfl (lv_at hl 3 rfl) ?_
    refine va_lald hx hb hK hP 2 1 rfl rfl (by assumption) dX3_gives_20 ?_
    refine lv_aload_n hx hb dX3_gives_21 rfl (lv_at hl 1 rfl) ?_
    refine va_get (D := (dC, dI)) (ci := 2) (v := .ref (b 2)) (C := RX3) (T := TX3) (N := 19) hx hb hts h_inX3 hown hK hP 0 rfl rfl 1 (by decide) k_1 (fun _ h9 => h9) rfl dX3_gives_22 ?_
    refine lv_iload_n hx hb dX3_gives_25 rfl (lv_at hl 4 rfl) ?_
    refine va_lald hx hb hK hP 2 1 rfl rfl (by assumption) dX3_gives_26 ?_
    refine cs_l (W.runV (As := [.int (kd p1.toNatClampNeg), .long (vl p1.toNatClampNeg), .long (vl p2.toNatClampNeg)]) (rest := []) ⟨hx, hb, hml, hown, hts⟩ (c_X3_greater l dC dI cI cJ cZ b kd vl lo hi nd so fr tg gn nr kp ah kx st mo ma fa op nx (kd p1.toNatClampNeg) (vl p1.toNatClampNeg) (vl p2.toNatClampNeg) ) (cwV 3 hts gX3_gives_X3_greater rfl rfl rfl (by decide +kernel) ⟨Nat.le_of_ble_eq_true rfl, Nat.le_of_ble_eq_true rfl⟩) (fb_v hK hP (va_recv hK hP (ci := 2) (q0 := 0) rfl rfl)) rfl rfl hl.1 rfl (lv_room (Nat.le_of_ble_eq_true rfl)) dX3_gives_27 ⟨Nat.zero_le _, Nat.zero_le _⟩) ?_
    exact W.lret (v := (m_greater (kd p1.toNatClampNeg) (vl p1.toNatClampNeg) (vl p2.toNatClampNeg))) hx hb hr (fun t ht hW => ⟨_, rfl, (by unfold m_gives; rw [if_pos c_1]), ht⟩) (fun _ h => by cases h) dX3_gives_30
def m_reason (kd : Nat → Int32) (p0 : Int32) (p1 : Int32) (p2 : Int32) : Int32 :=
  if (kd p1.toNatClampNeg) = (kd p2.toNatClampNeg) then (if p1 = p2 then (6 : Int32)
    else if p0 = (2 : Int32) then (if (m_isReal (kd p1.toNatClampNeg)) = 0 then (2 : Int32)
        else (0 : Int32))
      else (0 : Int32))
  else (6 : Int32)
set_option maxHeartbeats 4000000 in
set_option maxRecDepth 100000 in
theorem c_X3_reason (l : Launch) (dC : Nat → ClassId) (dI : Nat → Nat → Nat) (cI cJ cZ : ClassId) (b : Nat → Nat) (kd : Nat → Int32) (vl : Nat → Int64) (lo : Nat → Int64) (hi : Nat → Int64) (nd : Int32) (so : Nat → Int32) (fr : Nat → Int32) (tg : Nat → Int32) (gn : Nat → Int32) (nr : Int32) (kp : Nat → Int64) (ah : Nat → Int64) (kx : Nat → Int32) (st : Int32) (mo : Int32) (ma : Int32) (fa : Int32) (op : Nat → Int32) (nx : Nat → Int32) (p0 : Int32) (p1 : Int32) (p2 : Int32) (hf : vp_in p1 16) (ht : vp_in p2 16) : Met l yX3_reason wsX3_reason ({ frames := 1, cells := 0, slots := 0, locals := 21 }) (va_Pc [.ref (b 0), .int p0, .int p1, .int p2] (fun U => va_P (dC, dI) vwCl (wM cI cJ cZ b kd vl lo hi nd so fr tg gn nr kp ah kx st mo ma fa op nx) U.heap ∧ va_K (dC, dI) vwCl (tA cI cJ cZ) U)) (vp_Si (fun r => r = m_reason kd p0 p1 p2)) 0 0 (fun _ => False) := by
  refine Met.ofW (cc := cX3_reason) (maxL := 4) (ret := (some .int)) (by decide) rfl ?_
  intro p e s m args below meth c s₁ B hml hv
  obtain ⟨rfl, hP, hK⟩ := hv
  have hx := B.exec
  have hb := B.bytes
  have hr := B.returns
  have hts := atoms_spec (ws := wsX3_reason) B.pre
  have hown : s.vm.findClass RX3 = some m.cls := findClass_of_methodNamed B.named
  have hlocks := B.notSynchronized
  have h_inX3 : ∀ w ∈ wsX30, w ∈ wsX3_reason := fun _ h => List.mem_cons_of_mem _ (List.mem_append_right _ h)
  have k_0 := hts (.fieldLink RX3 7 "DetentCabinetModel" "kind" "[I") (by decide +kernel)
  have hl := lv_entry ([.ref (b 0), .int p0, .int p1, .int p2]) (n := 4) (Nat.le_of_ble_eq_true rfl)
  rw [lg_entry_eq]
  generalize (lg_sl ([.ref (b 0), .int p0, .int p1, .int p2]) ++ List.replicate (4 - (lg_sl ([.ref (b 0), .int p0, .int p1, .int p2])).length) Slot.unset).toArray = ls at hl ⊢
  have hl : lv_has ls 4 [(0, .ref (b 0)), (1, .int p0), (2, .int p1), (3, .int p2)] := hl
  refine lv_aload_n hx hb dX3_reason_0 rfl (lv_at hl 0 rfl) ?_
  refine va_get (D := (dC, dI)) (ci := 2) (v := .ref (b 1)) (C := RX3) (T := TX3) (N := 19) hx hb hts h_inX3 hown hK hP 0 rfl rfl 0 (by decide) k_0 (fun _ h9 => h9) rfl dX3_reason_1 ?_
  refine lv_iload_n hx hb dX3_reason_4 rfl (lv_at hl 2 rfl) ?_
  refine va_iald hx hb hK hP 1 0 rfl rfl (by assumption) dX3_reason_5 ?_
  refine lv_aload_n hx hb dX3_reason_6 rfl (lv_at hl 0 rfl) ?_
  refine va_get (D := (dC, dI)) (ci := 2) (v := .ref (b 1)) (C := RX3) (T := TX3) (N := 19) hx hb hts h_inX3 hown hK hP 0 rfl rfl 0 (by decide) k_0 (fun _ h9 => h9) rfl dX3_reason_7 ?_
  refine lv_iload_n hx hb dX3_reason_10 rfl (lv_at hl 3 rfl) ?_
  refine va_iald hx hb hK hP 1 0 rfl rfl (by assumption) dX3_reason_11 ?_
  refine lv_icmp_ne (tgt := 20) hx hb dX3_reason_12 (by decide) (fun c_1 => ?_) (fun c_1 => ?_)
  · skip
    refine lv_bipush (v := 6) hx hb dX3_reason_20 (by decide) ?_
    exact W.iret (v := (6 : Int32)) hx hb hr (fun t ht hW => ⟨_, rfl, (by unfold m_reason; rw [if_neg c_1]), ht⟩) (fun _ h => by cases h) dX3_reason_22
  · skip
    refine lv_iload_n hx hb dX3_reason_15 rfl (lv_at hl 2 rfl) ?_
    refine lv_iload_n hx hb dX3_reason_16 rfl (lv_at hl 3 rfl) ?_
    refine lv_icmp_ne (tgt := 23) hx hb dX3_reason_17 (by decide) (fun c_2 => ?_) (fun c_2 => ?_)
    · skip
      refine lv_iload_n hx hb dX3_reason_23 rfl (lv_at hl 1 rfl) ?_
      refine lv_iconst (v := 2) hx hb dX3_reason_24 (by decide) ?_
      refine lv_icmp_ne (tgt := 45) hx hb dX3_reason_25 (by decide) (fun c_3 => ?_) (fun c_3 => ?_)
      · skip
        refine lv_iconst (v := 0) hx hb dX3_reason_45 (by decide) ?_
        exact W.iret (v := (0 : Int32)) hx hb hr (fun t ht hW => ⟨_, rfl, (by unfold m_reason; rw [if_pos c_1, if_neg c_2, if_neg c_3]), ht⟩) (fun _ h => by cases h) dX3_reason_46
      · skip
        refine lv_aload_n hx hb dX3_reason_28 rfl (lv_at hl 0 rfl) ?_
        refine lv_aload_n hx hb dX3_reason_29 rfl (lv_at hl 0 rfl) ?_
        refine va_get (D := (dC, dI)) (ci := 2) (v := .ref (b 1)) (C := RX3) (T := TX3) (N := 19) hx hb hts h_inX3 hown hK hP 0 rfl rfl 0 (by decide) k_0 (fun _ h9 => h9) rfl dX3_reason_30 ?_
        refine lv_iload_n hx hb dX3_reason_33 rfl (lv_at hl 2 rfl) ?_
        refine va_iald hx hb hK hP 1 0 rfl rfl (by assumption) dX3_reason_34 ?_
        refine cs_i (W.runV (As := [.int (kd p1.toNatClampNeg)]) (rest := []) ⟨hx, hb, hml, hown, hts⟩ (c_X3_isReal l dC dI cI cJ cZ b kd vl lo hi nd so fr tg gn nr kp ah kx st mo ma fa op nx (kd p1.toNatClampNeg) ) (cwV 1 hts gX3_reason_X3_isReal rfl rfl rfl (by decide +kernel) ⟨Nat.le_of_ble_eq_true rfl, Nat.le_of_ble_eq_true rfl⟩) (fb_v hK hP (va_recv hK hP (ci := 2) (q0 := 0) rfl rfl)) rfl rfl hl.1 rfl (lv_room (Nat.le_of_ble_eq_true rfl)) dX3_reason_35 ⟨Nat.zero_le _, Nat.zero_le _⟩) ?_
        refine lv_if_ne (tgt := 45) hx hb dX3_reason_38 (by decide) (fun c_4 => ?_) (fun c_4 => ?_)
        · skip
          refine lv_iconst (v := 0) hx hb dX3_reason_45 (by decide) ?_
          exact W.iret (v := (0 : Int32)) hx hb hr (fun t ht hW => ⟨_, rfl, (by unfold m_reason; rw [if_pos c_1, if_neg c_2, if_pos c_3, if_neg c_4]), ht⟩) (fun _ h => by cases h) dX3_reason_46
        · skip
          refine lv_iconst (v := 2) hx hb dX3_reason_41 (by decide) ?_
          refine lv_goto (tgt := 46) hx hb dX3_reason_42 (by decide) ?_
          exact W.iret (v := (2 : Int32)) hx hb hr (fun t ht hW => ⟨_, rfl, (by unfold m_reason; rw [if_pos c_1, if_neg c_2, if_pos c_3, if_pos c_4]), ht⟩) (fun _ h => by cases h) dX3_reason_46
    · skip
      refine lv_bipush (v := 6) hx hb dX3_reason_20 (by decide) ?_
      exact W.iret (v := (6 : Int32)) hx hb hr (fun t ht hW => ⟨_, rfl, (by unfold m_reason; rw [if_pos c_1, if_pos c_2]), ht⟩) (fun _ h => by cases h) dX3_reason_22
def m_look (kd : Nat → Int32) (vl : Nat → Int64) (lo : Nat → Int64) (hi : Nat → Int64) (nd : Int32) (p0 : Int32) (p1 : Int32) : Int64 :=
  if (m_isDial nd p0) = 0 then (0 : Int64)
  else if p1 = 0 then (vl p0.toNatClampNeg)
    else if p1 = (1 : Int32) then (lo p0.toNatClampNeg)
      else if p1 = (2 : Int32) then (hi p0.toNatClampNeg)
        else if p1 = (3 : Int32) then (kd p0.toNatClampNeg).toInt64
          else (0 : Int64)
set_option maxHeartbeats 4000000 in
set_option maxRecDepth 100000 in
theorem c_X3_look (l : Launch) (dC : Nat → ClassId) (dI : Nat → Nat → Nat) (cI cJ cZ : ClassId) (b : Nat → Nat) (kd : Nat → Int32) (vl : Nat → Int64) (lo : Nat → Int64) (hi : Nat → Int64) (nd : Int32) (so : Nat → Int32) (fr : Nat → Int32) (tg : Nat → Int32) (gn : Nat → Int32) (nr : Int32) (kp : Nat → Int64) (ah : Nat → Int64) (kx : Nat → Int32) (st : Int32) (mo : Int32) (ma : Int32) (fa : Int32) (op : Nat → Int32) (nx : Nat → Int32) (p0 : Int32) (p1 : Int32) (hn : nd ≤ 16) : Met l yX3_look wsX3_look ({ frames := 1, cells := 0, slots := 0, locals := 21 }) (va_Pc [.ref (b 0), .int p0, .int p1] (fun U => va_P (dC, dI) vwCl (wM cI cJ cZ b kd vl lo hi nd so fr tg gn nr kp ah kx st mo ma fa op nx) U.heap ∧ va_K (dC, dI) vwCl (tA cI cJ cZ) U)) (vp_Sl (fun r => r = m_look kd vl lo hi nd p0 p1)) 0 0 (fun _ => False) := by
  refine Met.ofW (cc := cX3_look) (maxL := 3) (ret := (some .long)) (by decide) rfl ?_
  intro p e s m args below meth c s₁ B hml hv
  obtain ⟨rfl, hP, hK⟩ := hv
  have hx := B.exec
  have hb := B.bytes
  have hr := B.returns
  have hts := atoms_spec (ws := wsX3_look) B.pre
  have hown : s.vm.findClass RX3 = some m.cls := findClass_of_methodNamed B.named
  have hlocks := B.notSynchronized
  have h_inX3 : ∀ w ∈ wsX30, w ∈ wsX3_look := fun _ h => List.mem_cons_of_mem _ (List.mem_append_right _ h)
  have k_0 := hts (.fieldLink RX3 7 "DetentCabinetModel" "kind" "[I") (by decide +kernel)
  have k_1 := hts (.fieldLink RX3 20 "DetentCabinetModel" "high" "[J") (by decide +kernel)
  have k_2 := hts (.fieldLink RX3 17 "DetentCabinetModel" "low" "[J") (by decide +kernel)
  have k_3 := hts (.fieldLink RX3 13 "DetentCabinetModel" "value" "[J") (by decide +kernel)
  have hl := lv_entry ([.ref (b 0), .int p0, .int p1]) (n := 3) (Nat.le_of_ble_eq_true rfl)
  rw [lg_entry_eq]
  generalize (lg_sl ([.ref (b 0), .int p0, .int p1]) ++ List.replicate (3 - (lg_sl ([.ref (b 0), .int p0, .int p1])).length) Slot.unset).toArray = ls at hl ⊢
  have hl : lv_has ls 3 [(0, .ref (b 0)), (1, .int p0), (2, .int p1)] := hl
  refine lv_aload_n hx hb dX3_look_0 rfl (lv_at hl 0 rfl) ?_
  refine lv_iload_n hx hb dX3_look_1 rfl (lv_at hl 1 rfl) ?_
  refine cs_i (W.runV (As := [.int p0]) (rest := []) ⟨hx, hb, hml, hown, hts⟩ (c_X3_isDial l dC dI cI cJ cZ b kd vl lo hi nd so fr tg gn nr kp ah kx st mo ma fa op nx p0 ) (cwV 1 hts gX3_look_X3_isDial rfl rfl rfl (by decide +kernel) ⟨Nat.le_of_ble_eq_true rfl, Nat.le_of_ble_eq_true rfl⟩) (fb_v hK hP (va_recv hK hP (ci := 2) (q0 := 0) rfl rfl)) rfl rfl hl.1 rfl (lv_room (Nat.le_of_ble_eq_true rfl)) dX3_look_2 ⟨Nat.zero_le _, Nat.zero_le _⟩) ?_
  refine lv_if_ne (tgt := 10) hx hb dX3_look_5 (by decide) (fun c_1 => ?_) (fun c_1 => ?_)
  · skip
    refine lv_iload_n hx hb dX3_look_10 rfl (lv_at hl 2 rfl) ?_
    refine lv_if_ne (tgt := 23) hx hb dX3_look_11 (by decide) (fun c_2 => ?_) (fun c_2 => ?_)
    · skip
      refine lv_iload_n hx hb dX3_look_23 rfl (lv_at hl 2 rfl) ?_
      refine lv_iconst (v := 1) hx hb dX3_look_24 (by decide) ?_
      refine lv_icmp_ne (tgt := 37) hx hb dX3_look_25 (by decide) (fun c_3 => ?_) (fun c_3 => ?_)
      · skip
        refine lv_iload_n hx hb dX3_look_37 rfl (lv_at hl 2 rfl) ?_
        refine lv_iconst (v := 2) hx hb dX3_look_38 (by decide) ?_
        refine lv_icmp_ne (tgt := 51) hx hb dX3_look_39 (by decide) (fun c_4 => ?_) (fun c_4 => ?_)
        · skip
          refine lv_iload_n hx hb dX3_look_51 rfl (lv_at hl 2 rfl) ?_
          refine lv_iconst (v := 3) hx hb dX3_look_52 (by decide) ?_
          refine lv_icmp_ne (tgt := 66) hx hb dX3_look_53 (by decide) (fun c_5 => ?_) (fun c_5 => ?_)
          · skip
            refine lv_lconst (v := 0) hx hb dX3_look_66 (by decide) ?_
            exact W.lret (v := (0 : Int64)) hx hb hr (fun t ht hW => ⟨_, rfl, (by unfold m_look; rw [if_neg c_1, if_neg c_2, if_neg c_3, if_neg c_4, if_neg c_5]), ht⟩) (fun _ h => by cases h) dX3_look_67
          · skip
            refine lv_aload_n hx hb dX3_look_56 rfl (lv_at hl 0 rfl) ?_
            refine va_get (D := (dC, dI)) (ci := 2) (v := .ref (b 1)) (C := RX3) (T := TX3) (N := 19) hx hb hts h_inX3 hown hK hP 0 rfl rfl 0 (by decide) k_0 (fun _ h9 => h9) rfl dX3_look_57 ?_
            refine lv_iload_n hx hb dX3_look_60 rfl (lv_at hl 1 rfl) ?_
            refine va_iald hx hb hK hP 1 0 rfl rfl (in_dm hn (by assumption)) dX3_look_61 ?_
            refine lv_i2l hx hb dX3_look_62 rfl ?_
            refine lv_goto (tgt := 67) hx hb dX3_look_63 (by decide) ?_
            exact W.lret (v := (kd p0.toNatClampNeg).toInt64) hx hb hr (fun t ht hW => ⟨_, rfl, (by unfold m_look; rw [if_neg c_1, if_neg c_2, if_neg c_3, if_neg c_4, if_pos c_5]), ht⟩) (fun _ h => by cases h) dX3_look_67
        · skip
          refine lv_aload_n hx hb dX3_look_42 rfl (lv_at hl 0 rfl) ?_
          refine va_get (D := (dC, dI)) (ci := 2) (v := .ref (b 4)) (C := RX3) (T := TX3) (N := 19) hx hb hts h_inX3 hown hK hP 0 rfl rfl 3 (by decide) k_1 (fun _ h9 => h9) rfl dX3_look_43 ?_
          refine lv_iload_n hx hb dX3_look_46 rfl (lv_at hl 1 rfl) ?_
          refine va_lald hx hb hK hP 4 1 rfl rfl (in_dm hn (by assumption)) dX3_look_47 ?_
          refine lv_goto (tgt := 67) hx hb dX3_look_48 (by decide) ?_
          exact W.lret (v := (hi p0.toNatClampNeg)) hx hb hr (fun t ht hW => ⟨_, rfl, (by unfold m_look; rw [if_neg c_1, if_neg c_2, if_neg c_3, if_pos c_4]), ht⟩) (fun _ h => by cases h) dX3_look_67
      · skip
        refine lv_aload_n hx hb dX3_look_28 rfl (lv_at hl 0 rfl) ?_
        refine va_get (D := (dC, dI)) (ci := 2) (v := .ref (b 3)) (C := RX3) (T := TX3) (N := 19) hx hb hts h_inX3 hown hK hP 0 rfl rfl 2 (by decide) k_2 (fun _ h9 => h9) rfl dX3_look_29 ?_
        refine lv_iload_n hx hb dX3_look_32 rfl (lv_at hl 1 rfl) ?_
        refine va_lald hx hb hK hP 3 1 rfl rfl (in_dm hn (by assumption)) dX3_look_33 ?_
        refine lv_goto (tgt := 67) hx hb dX3_look_34 (by decide) ?_
        exact W.lret (v := (lo p0.toNatClampNeg)) hx hb hr (fun t ht hW => ⟨_, rfl, (by unfold m_look; rw [if_neg c_1, if_neg c_2, if_pos c_3]), ht⟩) (fun _ h => by cases h) dX3_look_67
    · skip
      refine lv_aload_n hx hb dX3_look_14 rfl (lv_at hl 0 rfl) ?_
      refine va_get (D := (dC, dI)) (ci := 2) (v := .ref (b 2)) (C := RX3) (T := TX3) (N := 19) hx hb hts h_inX3 hown hK hP 0 rfl rfl 1 (by decide) k_3 (fun _ h9 => h9) rfl dX3_look_15 ?_
      refine lv_iload_n hx hb dX3_look_18 rfl (lv_at hl 1 rfl) ?_
      refine va_lald hx hb hK hP 2 1 rfl rfl (in_dm hn (by assumption)) dX3_look_19 ?_
      refine lv_goto (tgt := 67) hx hb dX3_look_20 (by decide) ?_
      exact W.lret (v := (vl p0.toNatClampNeg)) hx hb hr (fun t ht hW => ⟨_, rfl, (by unfold m_look; rw [if_neg c_1, if_pos c_2]), ht⟩) (fun _ h => by cases h) dX3_look_67
  · skip
    refine lv_lconst (v := 0) hx hb dX3_look_8 (by decide) ?_
    exact W.lret (v := (0 : Int64)) hx hb hr (fun t ht hW => ⟨_, rfl, (by unfold m_look; rw [if_pos c_1]), ht⟩) (fun _ h => by cases h) dX3_look_9
def m_count (nd : Int32) (nr : Int32) (st : Int32) (ma : Int32) (fa : Int32) (p0 : Int32) : Int32 :=
  if p0 = 0 then nd
  else if p0 = (1 : Int32) then nr
    else if p0 = (2 : Int32) then st
      else if p0 = (3 : Int32) then ma
        else if p0 = (4 : Int32) then fa
          else (-1 : Int32)
set_option maxHeartbeats 4000000 in
set_option maxRecDepth 100000 in
theorem c_X3_count (l : Launch) (dC : Nat → ClassId) (dI : Nat → Nat → Nat) (cI cJ cZ : ClassId) (b : Nat → Nat) (kd : Nat → Int32) (vl : Nat → Int64) (lo : Nat → Int64) (hi : Nat → Int64) (nd : Int32) (so : Nat → Int32) (fr : Nat → Int32) (tg : Nat → Int32) (gn : Nat → Int32) (nr : Int32) (kp : Nat → Int64) (ah : Nat → Int64) (kx : Nat → Int32) (st : Int32) (mo : Int32) (ma : Int32) (fa : Int32) (op : Nat → Int32) (nx : Nat → Int32) (p0 : Int32) : Met l yX3_count wsX3_count ({ frames := 0, cells := 0, slots := 0, locals := 0 }) (va_Pc [.ref (b 0), .int p0] (fun U => va_P (dC, dI) vwCl (wM cI cJ cZ b kd vl lo hi nd so fr tg gn nr kp ah kx st mo ma fa op nx) U.heap ∧ va_K (dC, dI) vwCl (tA cI cJ cZ) U)) (vp_Si (fun r => r = m_count nd nr st ma fa p0)) 0 0 (fun _ => False) := by
  refine Met.ofW (cc := cX3_count) (maxL := 2) (ret := (some .int)) (by decide) rfl ?_
  intro p e s m args below meth c s₁ B hml hv
  obtain ⟨rfl, hP, hK⟩ := hv
  have hx := B.exec
  have hb := B.bytes
  have hr := B.returns
  have hts := atoms_spec (ws := wsX3_count) B.pre
  have hown : s.vm.findClass RX3 = some m.cls := findClass_of_methodNamed B.named
  have hlocks := B.notSynchronized
  have h_inX3 : ∀ w ∈ wsX30, w ∈ wsX3_count := fun _ h => List.mem_cons_of_mem _ (List.mem_append_right _ h)
  have k_0 := hts (.fieldLink RX3 55 "DetentCabinetModel" "fault" "I") (by decide +kernel)
  have k_1 := hts (.fieldLink RX3 137 "DetentCabinetModel" "movesInAll" "I") (by decide +kernel)
  have k_2 := hts (.fieldLink RX3 143 "DetentCabinetModel" "steps" "I") (by decide +kernel)
  have k_3 := hts (.fieldLink RX3 126 "DetentCabinetModel" "rods" "I") (by decide +kernel)
  have k_4 := hts (.fieldLink RX3 51 "DetentCabinetModel" "dials" "I") (by decide +kernel)
  have hl := lv_entry ([.ref (b 0), .int p0]) (n := 2) (Nat.le_of_ble_eq_true rfl)
  rw [lg_entry_eq]
  generalize (lg_sl ([.ref (b 0), .int p0]) ++ List.replicate (2 - (lg_sl ([.ref (b 0), .int p0])).length) Slot.unset).toArray = ls at hl ⊢
  have hl : lv_has ls 2 [(0, .ref (b 0)), (1, .int p0)] := hl
  refine lv_iload_n hx hb dX3_count_0 rfl (lv_at hl 1 rfl) ?_
  refine lv_if_ne (tgt := 11) hx hb dX3_count_1 (by decide) (fun c_1 => ?_) (fun c_1 => ?_)
  · skip
    refine lv_iload_n hx hb dX3_count_11 rfl (lv_at hl 1 rfl) ?_
    refine lv_iconst (v := 1) hx hb dX3_count_12 (by decide) ?_
    refine lv_icmp_ne (tgt := 23) hx hb dX3_count_13 (by decide) (fun c_2 => ?_) (fun c_2 => ?_)
    · skip
      refine lv_iload_n hx hb dX3_count_23 rfl (lv_at hl 1 rfl) ?_
      refine lv_iconst (v := 2) hx hb dX3_count_24 (by decide) ?_
      refine lv_icmp_ne (tgt := 35) hx hb dX3_count_25 (by decide) (fun c_3 => ?_) (fun c_3 => ?_)
      · skip
        refine lv_iload_n hx hb dX3_count_35 rfl (lv_at hl 1 rfl) ?_
        refine lv_iconst (v := 3) hx hb dX3_count_36 (by decide) ?_
        refine lv_icmp_ne (tgt := 47) hx hb dX3_count_37 (by decide) (fun c_4 => ?_) (fun c_4 => ?_)
        · skip
          refine lv_iload_n hx hb dX3_count_47 rfl (lv_at hl 1 rfl) ?_
          refine lv_iconst (v := 4) hx hb dX3_count_48 (by decide) ?_
          refine lv_icmp_ne (tgt := 59) hx hb dX3_count_49 (by decide) (fun c_5 => ?_) (fun c_5 => ?_)
          · skip
            refine lv_iconst (v := (-1)) hx hb dX3_count_59 (by decide) ?_
            exact W.iret (v := (-1 : Int32)) hx hb hr (fun t ht hW => ⟨_, rfl, (by unfold m_count; rw [if_neg c_1, if_neg c_2, if_neg c_3, if_neg c_4, if_neg c_5]), ht⟩) (fun _ h => by cases h) dX3_count_60
          · skip
            refine lv_aload_n hx hb dX3_count_52 rfl (lv_at hl 0 rfl) ?_
            refine va_get (D := (dC, dI)) (ci := 2) (v := .int fa) (C := RX3) (T := TX3) (N := 19) hx hb hts h_inX3 hown hK hP 0 rfl rfl 16 (by decide) k_0 (fun _ h9 => h9) rfl dX3_count_53 ?_
            refine lv_goto (tgt := 60) hx hb dX3_count_56 (by decide) ?_
            exact W.iret (v := fa) hx hb hr (fun t ht hW => ⟨_, rfl, (by unfold m_count; rw [if_neg c_1, if_neg c_2, if_neg c_3, if_neg c_4, if_pos c_5]), ht⟩) (fun _ h => by cases h) dX3_count_60
        · skip
          refine lv_aload_n hx hb dX3_count_40 rfl (lv_at hl 0 rfl) ?_
          refine va_get (D := (dC, dI)) (ci := 2) (v := .int ma) (C := RX3) (T := TX3) (N := 19) hx hb hts h_inX3 hown hK hP 0 rfl rfl 15 (by decide) k_1 (fun _ h9 => h9) rfl dX3_count_41 ?_
          refine lv_goto (tgt := 60) hx hb dX3_count_44 (by decide) ?_
          exact W.iret (v := ma) hx hb hr (fun t ht hW => ⟨_, rfl, (by unfold m_count; rw [if_neg c_1, if_neg c_2, if_neg c_3, if_pos c_4]), ht⟩) (fun _ h => by cases h) dX3_count_60
      · skip
        refine lv_aload_n hx hb dX3_count_28 rfl (lv_at hl 0 rfl) ?_
        refine va_get (D := (dC, dI)) (ci := 2) (v := .int st) (C := RX3) (T := TX3) (N := 19) hx hb hts h_inX3 hown hK hP 0 rfl rfl 13 (by decide) k_2 (fun _ h9 => h9) rfl dX3_count_29 ?_
        refine lv_goto (tgt := 60) hx hb dX3_count_32 (by decide) ?_
        exact W.iret (v := st) hx hb hr (fun t ht hW => ⟨_, rfl, (by unfold m_count; rw [if_neg c_1, if_neg c_2, if_pos c_3]), ht⟩) (fun _ h => by cases h) dX3_count_60
    · skip
      refine lv_aload_n hx hb dX3_count_16 rfl (lv_at hl 0 rfl) ?_
      refine va_get (D := (dC, dI)) (ci := 2) (v := .int nr) (C := RX3) (T := TX3) (N := 19) hx hb hts h_inX3 hown hK hP 0 rfl rfl 9 (by decide) k_3 (fun _ h9 => h9) rfl dX3_count_17 ?_
      refine lv_goto (tgt := 60) hx hb dX3_count_20 (by decide) ?_
      exact W.iret (v := nr) hx hb hr (fun t ht hW => ⟨_, rfl, (by unfold m_count; rw [if_neg c_1, if_pos c_2]), ht⟩) (fun _ h => by cases h) dX3_count_60
  · skip
    refine lv_aload_n hx hb dX3_count_4 rfl (lv_at hl 0 rfl) ?_
    refine va_get (D := (dC, dI)) (ci := 2) (v := .int nd) (C := RX3) (T := TX3) (N := 19) hx hb hts h_inX3 hown hK hP 0 rfl rfl 4 (by decide) k_4 (fun _ h9 => h9) rfl dX3_count_5 ?_
    refine lv_goto (tgt := 60) hx hb dX3_count_8 (by decide) ?_
    exact W.iret (v := nd) hx hb hr (fun t ht hW => ⟨_, rfl, (by unfold m_count; rw [if_pos c_1]), ht⟩) (fun _ h => by cases h) dX3_count_60
end
section
def m_whole_9 (p0 : Int32) (p1 : Int64) (p2 : Int32) (y_1 : Int64) (y_2 : Int32) (y_4 : Int32) (y_6 : Int32) (y_9 : Int32) (y_14 : Int32) (y_15 : Int64) (y_16 : Int64) (y_19 : Int64) : Int64 :=
  (m_signed p0 y_19 p1)
def m_whole_13 (p0 : Int32) (p1 : Int64) (p2 : Int32) (y_1 : Int64) (y_2 : Int32) (y_4 : Int32) (y_6 : Int32) (y_9 : Int32) (y_14 : Int32) (y_15 : Int64) (y_16 : Int64) (y_21 : Int64) (y_22 : Int32) (y_25 : Int32) (y_29 : Int64) : Int64 :=
  (m_signed p0 y_29 p1)
def m_whole_12 (p0 : Int32) (p1 : Int64) (p2 : Int32) (y_1 : Int64) (y_2 : Int32) (y_4 : Int32) (y_6 : Int32) (y_9 : Int32) (y_14 : Int32) (y_15 : Int64) (y_16 : Int64) (y_21 : Int64) (y_22 : Int32) (y_25 : Int32) : Int64 :=
  (m_whole_13 p0 p1 p2 y_1 y_2 y_4 y_6 y_9 y_14 y_15 y_16 y_21 y_22 y_25 (if y_25 = 0 then y_16 else (y_16 + ((1 : Int64) <<< (y_14.toInt64 &&& 63)))))
def m_whole_11 (p0 : Int32) (p1 : Int64) (p2 : Int32) (y_1 : Int64) (y_2 : Int32) (y_4 : Int32) (y_6 : Int32) (y_9 : Int32) (y_14 : Int32) (y_15 : Int64) (y_16 : Int64) (y_21 : Int64) (y_22 : Int32) : Int64 :=
  (m_whole_12 p0 p1 p2 y_1 y_2 y_4 y_6 y_9 y_14 y_15 y_16 y_21 y_22 (if y_21 < y_15 then (1 : Int32) else if y_15 = y_21 then (if y_22 = 0 then (0 : Int32) else (1 : Int32)) else (0 : Int32)))
def m_whole_10 (p0 : Int32) (p1 : Int64) (p2 : Int32) (y_1 : Int64) (y_2 : Int32) (y_4 : Int32) (y_6 : Int32) (y_9 : Int32) (y_14 : Int32) (y_15 : Int64) (y_16 : Int64) (y_21 : Int64) : Int64 :=
  (m_whole_11 p0 p1 p2 y_1 y_2 y_4 y_6 y_9 y_14 y_15 y_16 y_21 (if y_6 = 0 then (1 : Int32) else if ((y_1 >>> (y_14.toInt64 &&& 63)) &&& (1 : Int64)) = (1 : Int64) then (1 : Int32) else (0 : Int32)))
def m_whole_8 (p0 : Int32) (p1 : Int64) (p2 : Int32) (y_1 : Int64) (y_2 : Int32) (y_4 : Int32) (y_6 : Int32) (y_9 : Int32) (y_14 : Int32) (y_15 : Int64) (y_16 : Int64) : Int64 :=
  if y_15 = (0 : Int64) then p1
  else if p2 = (3 : Int32) then (m_whole_10 p0 p1 p2 y_1 y_2 y_4 y_6 y_9 y_14 y_15 y_16 ((1 : Int64) <<< ((y_14 - (1 : Int32)).toInt64 &&& 63)))
    else (m_whole_9 p0 p1 p2 y_1 y_2 y_4 y_6 y_9 y_14 y_15 y_16 (if y_9 = 0 then y_16 else (y_16 + ((1 : Int64) <<< (y_14.toInt64 &&& 63)))))
def m_whole_7 (p0 : Int32) (p1 : Int64) (p2 : Int32) (y_1 : Int64) (y_2 : Int32) (y_4 : Int32) (y_6 : Int32) (y_9 : Int32) (y_14 : Int32) (y_15 : Int64) : Int64 :=
  (m_whole_8 p0 p1 p2 y_1 y_2 y_4 y_6 y_9 y_14 y_15 (y_1 - y_15))
def m_whole_6 (p0 : Int32) (p1 : Int64) (p2 : Int32) (y_1 : Int64) (y_2 : Int32) (y_4 : Int32) (y_6 : Int32) (y_9 : Int32) (y_14 : Int32) : Int64 :=
  (m_whole_7 p0 p1 p2 y_1 y_2 y_4 y_6 y_9 y_14 (y_1 &&& (((1 : Int64) <<< (y_14.toInt64 &&& 63)) - (1 : Int64))))
def m_whole_14 (p0 : Int32) (p1 : Int64) (p2 : Int32) (y_1 : Int64) (y_2 : Int32) (y_4 : Int32) (y_6 : Int32) (y_9 : Int32) (y_32 : Int64) : Int64 :=
  (m_signed p0 y_32 p1)
def m_whole_16 (p0 : Int32) (p1 : Int64) (p2 : Int32) (y_1 : Int64) (y_2 : Int32) (y_4 : Int32) (y_6 : Int32) (y_9 : Int32) (y_34 : Int32) (y_37 : Int64) : Int64 :=
  (m_signed p0 y_37 p1)
def m_whole_15 (p0 : Int32) (p1 : Int64) (p2 : Int32) (y_1 : Int64) (y_2 : Int32) (y_4 : Int32) (y_6 : Int32) (y_9 : Int32) (y_34 : Int32) : Int64 :=
  (m_whole_16 p0 p1 p2 y_1 y_2 y_4 y_6 y_9 y_34 (if y_34 = 0 then (0 : Int64) else (m_one p0)))
def m_whole_5 (p0 : Int32) (p1 : Int64) (p2 : Int32) (y_1 : Int64) (y_2 : Int32) (y_4 : Int32) (y_6 : Int32) (y_9 : Int32) : Int64 :=
  if 0 ≤ y_6 then (m_whole_6 p0 p1 p2 y_1 y_2 y_4 y_6 y_9 (y_2 - y_6))
  else if p2 = (3 : Int32) then (m_whole_15 p0 p1 p2 y_1 y_2 y_4 y_6 y_9 (if y_6 = (-1 : Int32) then (if y_1 ≤ ((m_one p0) - ((1 : Int64) <<< (y_2.toInt64 &&& 63))) then (0 : Int32) else (1 : Int32)) else (0 : Int32)))
    else (m_whole_14 p0 p1 p2 y_1 y_2 y_4 y_6 y_9 (if y_9 = 0 then (0 : Int64) else (m_one p0)))
def m_whole_4 (p0 : Int32) (p1 : Int64) (p2 : Int32) (y_1 : Int64) (y_2 : Int32) (y_4 : Int32) (y_6 : Int32) : Int64 :=
  if y_1 = (0 : Int64) then p1
  else if y_6 < y_2 then (m_whole_5 p0 p1 p2 y_1 y_2 y_4 y_6 (if p2 = (1 : Int32) then (if (0 : Int64) ≤ p1 then (0 : Int32) else (1 : Int32)) else if p1 < (0 : Int64) then (0 : Int32) else (1 : Int32)))
    else p1
def m_whole_3 (p0 : Int32) (p1 : Int64) (p2 : Int32) (y_1 : Int64) (y_2 : Int32) (y_4 : Int32) : Int64 :=
  (m_whole_4 p0 p1 p2 y_1 y_2 y_4 ((y_1 >>> (y_2.toInt64 &&& 63)).toInt32 - y_4))
def m_whole_2 (p0 : Int32) (p1 : Int64) (p2 : Int32) (y_1 : Int64) (y_2 : Int32) : Int64 :=
  (m_whole_3 p0 p1 p2 y_1 y_2 (if p0 = (2 : Int32) then (127 : Int32) else (1023 : Int32)))
def m_whole_1 (p0 : Int32) (p1 : Int64) (p2 : Int32) (y_1 : Int64) : Int64 :=
  (m_whole_2 p0 p1 p2 y_1 (if p0 = (2 : Int32) then (23 : Int32) else (52 : Int32)))
def m_whole (p0 : Int32) (p1 : Int64) (p2 : Int32) : Int64 :=
  (m_whole_1 p0 p1 p2 (m_plain p0 p1))
set_option maxHeartbeats 4000000 in
set_option maxRecDepth 100000 in
theorem c_X3_whole (l : Launch) (dC : Nat → ClassId) (dI : Nat → Nat → Nat) (cI cJ cZ : ClassId) (b : Nat → Nat) (kd : Nat → Int32) (vl : Nat → Int64) (lo : Nat → Int64) (hi : Nat → Int64) (nd : Int32) (so : Nat → Int32) (fr : Nat → Int32) (tg : Nat → Int32) (gn : Nat → Int32) (nr : Int32) (kp : Nat → Int64) (ah : Nat → Int64) (kx : Nat → Int32) (st : Int32) (mo : Int32) (ma : Int32) (fa : Int32) (op : Nat → Int32) (nx : Nat → Int32) (p0 : Int32) (p1 : Int64) (p2 : Int32) : Met l yX3_whole wsX3_whole ({ frames := 1, cells := 0, slots := 0, locals := 25 }) (va_Pc [.ref (b 0), .int p0, .long p1, .int p2] (fun U => va_P (dC, dI) vwCl (wM cI cJ cZ b kd vl lo hi nd so fr tg gn nr kp ah kx st mo ma fa op nx) U.heap ∧ va_K (dC, dI) vwCl (tA cI cJ cZ) U)) (vp_Sl (fun r => r = m_whole p0 p1 p2)) 0 0 (fun _ => False) := by
  refine Met.ofW (cc := cX3_whole) (maxL := 18) (ret := (some .long)) (by decide) rfl ?_
  intro p e s m args below meth c s₁ B hml hv
  obtain ⟨rfl, hP, hK⟩ := hv
  have hx := B.exec
  have hb := B.bytes
  have hr := B.returns
  have hts := atoms_spec (ws := wsX3_whole) B.pre
  have hown : s.vm.findClass RX3 = some m.cls := findClass_of_methodNamed B.named
  have hlocks := B.notSynchronized
  have hl := lv_entry ([.ref (b 0), .int p0, .long p1, .int p2]) (n := 18) (Nat.le_of_ble_eq_true rfl)
  rw [lg_entry_eq]
  generalize (lg_sl ([.ref (b 0), .int p0, .long p1, .int p2]) ++ List.replicate (18 - (lg_sl ([.ref (b 0), .int p0, .long p1, .int p2])).length) Slot.unset).toArray = ls at hl ⊢
  have hl : lv_has ls 18 [(0, .ref (b 0)), (1, .int p0), (2, .long p1), (4, .int p2)] := hl
  refine lv_aload_n hx hb dX3_whole_0 rfl (lv_at hl 0 rfl) ?_
  refine lv_iload_n hx hb dX3_whole_1 rfl (lv_at hl 1 rfl) ?_
  refine lv_lload_n hx hb dX3_whole_2 rfl (lv_at hl 2 rfl) ?_
  refine cs_l (W.runV (As := [.int p0, .long p1]) (rest := []) ⟨hx, hb, hml, hown, hts⟩ (c_X3_plain l dC dI cI cJ cZ b kd vl lo hi nd so fr tg gn nr kp ah kx st mo ma fa op nx p0 p1 ) (cwV 2 hts gX3_whole_X3_plain rfl rfl rfl (by decide +kernel) ⟨Nat.le_of_ble_eq_true rfl, Nat.le_of_ble_eq_true rfl⟩) (fb_v hK hP (va_recv hK hP (ci := 2) (q0 := 0) rfl rfl)) rfl rfl hl.1 rfl (lv_room (Nat.le_of_ble_eq_true rfl)) dX3_whole_3 ⟨Nat.zero_le _, Nat.zero_le _⟩) ?_
  refine lv_topl (fun y_1 ey_1 => ?_)
  have q_1 : m_whole p0 p1 p2 = m_whole_1 p0 p1 p2 y_1 := by unfold m_whole; rw [ey_1]
  refine lv_lstore (lv' := [(5, .long y_1), (0, .ref (b 0)), (1, .int p0), (2, .long p1), (4, .int p2)]) hx hb dX3_whole_6 hl (by decide) rfl (fun ls hl => ?_)
  refine lv_iload_n hx hb dX3_whole_8 rfl (lv_at hl 2 rfl) ?_
  refine lv_iconst (v := 2) hx hb dX3_whole_9 (by decide) ?_
  refine lv_join (val := if p0 = (2 : Int32) then (23 : Int32) else (52 : Int32)) (g := fun v => F0 m 20 ls (.int v :: [])) (fun y_2 ey_2 => ?_) (fun K_y_2 => ?_)
  · skip
    have q_2 : m_whole p0 p1 p2 = m_whole_2 p0 p1 p2 y_1 y_2 := q_1.trans (by unfold m_whole_1; rw [ey_2])
    refine lv_istore (lv' := [(7, .int y_2), (5, .long y_1), (0, .ref (b 0)), (1, .int p0), (2, .long p1), (4, .int p2)]) hx hb dX3_whole_20 hl (by decide) rfl (fun ls hl => ?_)
    refine lv_lload hx hb dX3_whole_22 (lv_at hl 1 rfl) ?_
    refine lv_iload hx hb dX3_whole_24 (lv_at hl 0 rfl) ?_
    refine lv_lshr hx hb dX3_whole_26 rfl ?_
    refine lv_l2i hx hb dX3_whole_27 rfl ?_
    refine lv_iload_n hx hb dX3_whole_28 rfl (lv_at hl 3 rfl) ?_
    refine lv_iconst (v := 2) hx hb dX3_whole_29 (by decide) ?_
    refine lv_join (val := if p0 = (2 : Int32) then (127 : Int32) else (1023 : Int32)) (g := fun v => F0 m 41 ls (.int v :: .int ((y_1 >>> (y_2.toInt64 &&& 63)).toInt32) :: [])) (fun y_4 ey_4 => ?_) (fun K_y_4 => ?_)
    · skip
      have q_3 : m_whole p0 p1 p2 = m_whole_3 p0 p1 p2 y_1 y_2 y_4 := q_2.trans (by unfold m_whole_2; rw [ey_4])
      refine lv_isub hx hb dX3_whole_41 ?_
      refine lv_topi (fun y_6 ey_6 => ?_)
      have q_4 : m_whole p0 p1 p2 = m_whole_4 p0 p1 p2 y_1 y_2 y_4 y_6 := q_3.trans (by unfold m_whole_3; rw [ey_6])
      refine lv_istore (lv' := [(8, .int y_6), (7, .int y_2), (5, .long y_1), (0, .ref (b 0)), (1, .int p0), (2, .long p1), (4, .int p2)]) hx hb dX3_whole_42 hl (by decide) rfl (fun ls hl => ?_)
      refine lv_lload hx hb dX3_whole_44 (lv_at hl 2 rfl) ?_
      refine lv_lconst (v := 0) hx hb dX3_whole_46 (by decide) ?_
      refine W.lcmp hx hb dX3_whole_47 ?_
      refine lv_if_eq (tgt := 58) hx hb dX3_whole_48 (by decide) (fun c_7 => ?_) (fun c_7 => ?_)
      · skip
        have c_7 : y_1 = (0 : Int64) := (lg_cmp_eq _ _).mp c_7
        refine lv_lload_n hx hb dX3_whole_58 rfl (lv_at hl 5 rfl) ?_
        exact W.lret (v := p1) hx hb hr (fun t ht hW => ⟨_, rfl, (q_4.trans (by unfold m_whole_4; rw [if_pos c_7])).symm, ht⟩) (fun _ h => by cases h) dX3_whole_59
      · skip
        have c_7 : ¬ (y_1 = (0 : Int64)) := fun h => c_7 ((lg_cmp_eq _ _).mpr h)
        refine lv_iload hx hb dX3_whole_51 (lv_at hl 0 rfl) ?_
        refine lv_iload hx hb dX3_whole_53 (lv_at hl 1 rfl) ?_
        refine lv_icmp_lt (tgt := 60) hx hb dX3_whole_55 (by decide) (fun c_8 => ?_) (fun c_8 => ?_)
        · skip
          refine lv_iload hx hb dX3_whole_60 (lv_at hl 6 rfl) ?_
          refine lv_iconst (v := 1) hx hb dX3_whole_62 (by decide) ?_
          refine lv_join (val := if p2 = (1 : Int32) then (if (0 : Int64) ≤ p1 then (0 : Int32) else (1 : Int32)) else if p1 < (0 : Int64) then (0 : Int32) else (1 : Int32)) (g := fun v => F0 m 91 ls (.int v :: [])) (fun y_9 ey_9 => ?_) (fun K_y_9 => ?_)
          · skip
            have q_5 : m_whole p0 p1 p2 = m_whole_5 p0 p1 p2 y_1 y_2 y_4 y_6 y_9 := q_4.trans (by unfold m_whole_4; rw [if_neg c_7, if_pos c_8, ey_9])
            refine lv_istore (lv' := [(9, .int y_9), (8, .int y_6), (7, .int y_2), (5, .long y_1), (0, .ref (b 0)), (1, .int p0), (2, .long p1), (4, .int p2)]) hx hb dX3_whole_91 hl (by decide) rfl (fun ls hl => ?_)
            refine lv_iload hx hb dX3_whole_93 (lv_at hl 1 rfl) ?_
            refine lv_if_ge (tgt := 154) hx hb dX3_whole_95 (by decide) (fun c_13 => ?_) (fun c_13 => ?_)
            · skip
              refine lv_iload hx hb dX3_whole_154 (lv_at hl 2 rfl) ?_
              refine lv_iload hx hb dX3_whole_156 (lv_at hl 1 rfl) ?_
              refine lv_isub hx hb dX3_whole_158 ?_
              refine lv_topi (fun y_14 ey_14 => ?_)
              have q_6 : m_whole p0 p1 p2 = m_whole_6 p0 p1 p2 y_1 y_2 y_4 y_6 y_9 y_14 := q_5.trans (by unfold m_whole_5; rw [if_pos c_13, ey_14])
              refine lv_istore (lv' := [(10, .int y_14), (9, .int y_9), (8, .int y_6), (7, .int y_2), (5, .long y_1), (0, .ref (b 0)), (1, .int p0), (2, .long p1), (4, .int p2)]) hx hb dX3_whole_159 hl (by decide) rfl (fun ls hl => ?_)
              refine lv_lload hx hb dX3_whole_161 (lv_at hl 4 rfl) ?_
              refine lv_lconst (v := 1) hx hb dX3_whole_163 (by decide) ?_
              refine lv_iload hx hb dX3_whole_164 (lv_at hl 0 rfl) ?_
              refine lv_lshl hx hb dX3_whole_166 rfl ?_
              refine lv_lconst (v := 1) hx hb dX3_whole_167 (by decide) ?_
              refine lv_lsub hx hb dX3_whole_168 ?_
              refine lv_land hx hb dX3_whole_169 ?_
              refine lv_topl (fun y_15 ey_15 => ?_)
              have q_7 : m_whole p0 p1 p2 = m_whole_7 p0 p1 p2 y_1 y_2 y_4 y_6 y_9 y_14 y_15 := q_6.trans (by unfold m_whole_6; rw [ey_15])
              refine lv_lstore (lv' := [(11, .long y_15), (10, .int y_14), (9, .int y_9), (8, .int y_6), (7, .int y_2), (5, .long y_1), (0, .ref (b 0)), (1, .int p0), (2, .long p1), (4, .int p2)]) hx hb dX3_whole_170 hl (by decide) rfl (fun ls hl => ?_)
              refine lv_lload hx hb dX3_whole_172 (lv_at hl 5 rfl) ?_
              refine lv_lload hx hb dX3_whole_174 (lv_at hl 0 rfl) ?_
              refine lv_lsub hx hb dX3_whole_176 ?_
              refine lv_topl (fun y_16 ey_16 => ?_)
              have q_8 : m_whole p0 p1 p2 = m_whole_8 p0 p1 p2 y_1 y_2 y_4 y_6 y_9 y_14 y_15 y_16 := q_7.trans (by unfold m_whole_7; rw [ey_16])
              refine lv_lstore (lv' := [(13, .long y_16), (11, .long y_15), (10, .int y_14), (9, .int y_9), (8, .int y_6), (7, .int y_2), (5, .long y_1), (0, .ref (b 0)), (1, .int p0), (2, .long p1), (4, .int p2)]) hx hb dX3_whole_177 hl (by decide) rfl (fun ls hl => ?_)
              refine lv_lload hx hb dX3_whole_179 (lv_at hl 1 rfl) ?_
              refine lv_lconst (v := 0) hx hb dX3_whole_181 (by decide) ?_
              refine W.lcmp hx hb dX3_whole_182 ?_
              refine lv_if_ne (tgt := 188) hx hb dX3_whole_183 (by decide) (fun c_17 => ?_) (fun c_17 => ?_)
              · skip
                have c_17 : ¬ (y_15 = (0 : Int64)) := fun h => c_17 ((lg_cmp_eq _ _).mpr h)
                refine lv_iload hx hb dX3_whole_188 (lv_at hl 10 rfl) ?_
                refine lv_iconst (v := 3) hx hb dX3_whole_190 (by decide) ?_
                refine lv_icmp_ne (tgt := 254) hx hb dX3_whole_191 (by decide) (fun c_18 => ?_) (fun c_18 => ?_)
                · skip
                  refine lv_aload_n hx hb dX3_whole_254 rfl (lv_at hl 7 rfl) ?_
                  refine lv_iload_n hx hb dX3_whole_255 rfl (lv_at hl 8 rfl) ?_
                  refine lv_iload hx hb dX3_whole_256 (lv_at hl 3 rfl) ?_
                  refine lv_join (val := if y_9 = 0 then y_16 else (y_16 + ((1 : Int64) <<< (y_14.toInt64 &&& 63)))) (g := fun v => F0 m 273 ls (.long v :: .int p0 :: .ref (b 0) :: [])) (fun y_19 ey_19 => ?_) (fun K_y_19 => ?_)
                  · skip
                    have q_9 : m_whole p0 p1 p2 = m_whole_9 p0 p1 p2 y_1 y_2 y_4 y_6 y_9 y_14 y_15 y_16 y_19 := q_8.trans (by unfold m_whole_8; rw [if_neg c_17, if_neg c_18, ey_19])
                    refine lv_lload_n hx hb dX3_whole_273 rfl (lv_at hl 9 rfl) ?_
                    refine cs_l (W.runV (As := [.int p0, .long y_19, .long p1]) (rest := []) ⟨hx, hb, hml, hown, hts⟩ (c_X3_signed l dC dI cI cJ cZ b kd vl lo hi nd so fr tg gn nr kp ah kx st mo ma fa op nx p0 y_19 p1 ) (cwV 3 hts gX3_whole_X3_signed rfl rfl rfl (by decide +kernel) ⟨Nat.le_of_ble_eq_true rfl, Nat.le_of_ble_eq_true rfl⟩) (fb_v hK hP (va_recv hK hP (ci := 2) (q0 := 0) rfl rfl)) rfl rfl hl.1 rfl (lv_room (Nat.le_of_ble_eq_true rfl)) dX3_whole_274 ⟨Nat.zero_le _, Nat.zero_le _⟩) ?_
                    exact W.lret (v := (m_signed p0 y_19 p1)) hx hb hr (fun t ht hW => ⟨_, rfl, (q_9.trans rfl).symm, ht⟩) (fun _ h => by cases h) dX3_whole_277
                  · skip
                    refine lv_if_eq (tgt := 271) hx hb dX3_whole_258 (by decide) (fun c_20 => ?_) (fun c_20 => ?_)
                    · skip
                      refine lv_lload hx hb dX3_whole_271 (lv_at hl 0 rfl) ?_
                      exact K_y_19 _ (by rw [if_pos c_20])
                    · skip
                      refine lv_lload hx hb dX3_whole_261 (lv_at hl 0 rfl) ?_
                      refine lv_lconst (v := 1) hx hb dX3_whole_263 (by decide) ?_
                      refine lv_iload hx hb dX3_whole_264 (lv_at hl 2 rfl) ?_
                      refine lv_lshl hx hb dX3_whole_266 rfl ?_
                      refine lv_ladd hx hb dX3_whole_267 ?_
                      refine lv_goto (tgt := 273) hx hb dX3_whole_268 (by decide) ?_
                      exact K_y_19 _ (by rw [if_neg c_20])
                · skip
                  refine lv_lconst (v := 1) hx hb dX3_whole_194 (by decide) ?_
                  refine lv_iload hx hb dX3_whole_195 (lv_at hl 2 rfl) ?_
                  refine lv_iconst (v := 1) hx hb dX3_whole_197 (by decide) ?_
                  refine lv_isub hx hb dX3_whole_198 ?_
                  refine lv_lshl hx hb dX3_whole_199 rfl ?_
                  refine lv_topl (fun y_21 ey_21 => ?_)
                  have q_10 : m_whole p0 p1 p2 = m_whole_10 p0 p1 p2 y_1 y_2 y_4 y_6 y_9 y_14 y_15 y_16 y_21 := q_8.trans (by unfold m_whole_8; rw [if_neg c_17, if_pos c_18, ey_21])
                  refine lv_lstore (lv' := [(15, .long y_21), (13, .long y_16), (11, .long y_15), (10, .int y_14), (9, .int y_9), (8, .int y_6), (7, .int y_2), (5, .long y_1), (0, .ref (b 0)), (1, .int p0), (2, .long p1), (4, .int p2)]) hx hb dX3_whole_200 hl (by decide) rfl (fun ls hl => ?_)
                  refine lv_iload hx hb dX3_whole_202 (lv_at hl 5 rfl) ?_
                  refine lv_join (val := if y_6 = 0 then (1 : Int32) else if ((y_1 >>> (y_14.toInt64 &&& 63)) &&& (1 : Int64)) = (1 : Int64) then (1 : Int32) else (0 : Int32)) (g := fun v => F0 m 224 ls (.int v :: [])) (fun y_22 ey_22 => ?_) (fun K_y_22 => ?_)
                  · skip
                    have q_11 : m_whole p0 p1 p2 = m_whole_11 p0 p1 p2 y_1 y_2 y_4 y_6 y_9 y_14 y_15 y_16 y_21 y_22 := q_10.trans (by unfold m_whole_10; rw [ey_22])
                    refine lv_istore (lv' := [(17, .int y_22), (15, .long y_21), (13, .long y_16), (11, .long y_15), (10, .int y_14), (9, .int y_9), (8, .int y_6), (7, .int y_2), (5, .long y_1), (0, .ref (b 0)), (1, .int p0), (2, .long p1), (4, .int p2)]) hx hb dX3_whole_224 hl (by decide) rfl (fun ls hl => ?_)
                    refine lv_lload hx hb dX3_whole_226 (lv_at hl 3 rfl) ?_
                    refine lv_lload hx hb dX3_whole_228 (lv_at hl 1 rfl) ?_
                    refine W.lcmp hx hb dX3_whole_230 ?_
                    refine lv_join (val := if y_21 < y_15 then (1 : Int32) else if y_15 = y_21 then (if y_22 = 0 then (0 : Int32) else (1 : Int32)) else (0 : Int32)) (g := fun v => F0 m 252 ls (.int v :: [])) (fun y_25 ey_25 => ?_) (fun K_y_25 => ?_)
                    · skip
                      have q_12 : m_whole p0 p1 p2 = m_whole_12 p0 p1 p2 y_1 y_2 y_4 y_6 y_9 y_14 y_15 y_16 y_21 y_22 y_25 := q_11.trans (by unfold m_whole_11; rw [ey_25])
                      refine lv_istore (lv' := [(9, .int y_25), (17, .int y_22), (15, .long y_21), (13, .long y_16), (11, .long y_15), (10, .int y_14), (8, .int y_6), (7, .int y_2), (5, .long y_1), (0, .ref (b 0)), (1, .int p0), (2, .long p1), (4, .int p2)]) hx hb dX3_whole_252 hl (by decide) rfl (fun ls hl => ?_)
                      refine lv_aload_n hx hb dX3_whole_254 rfl (lv_at hl 9 rfl) ?_
                      refine lv_iload_n hx hb dX3_whole_255 rfl (lv_at hl 10 rfl) ?_
                      refine lv_iload hx hb dX3_whole_256 (lv_at hl 0 rfl) ?_
                      refine lv_join (val := if y_25 = 0 then y_16 else (y_16 + ((1 : Int64) <<< (y_14.toInt64 &&& 63)))) (g := fun v => F0 m 273 ls (.long v :: .int p0 :: .ref (b 0) :: [])) (fun y_29 ey_29 => ?_) (fun K_y_29 => ?_)
                      · skip
                        have q_13 : m_whole p0 p1 p2 = m_whole_13 p0 p1 p2 y_1 y_2 y_4 y_6 y_9 y_14 y_15 y_16 y_21 y_22 y_25 y_29 := q_12.trans (by unfold m_whole_12; rw [ey_29])
                        refine lv_lload_n hx hb dX3_whole_273 rfl (lv_at hl 11 rfl) ?_
                        refine cs_l (W.runV (As := [.int p0, .long y_29, .long p1]) (rest := []) ⟨hx, hb, hml, hown, hts⟩ (c_X3_signed l dC dI cI cJ cZ b kd vl lo hi nd so fr tg gn nr kp ah kx st mo ma fa op nx p0 y_29 p1 ) (cwV 3 hts gX3_whole_X3_signed rfl rfl rfl (by decide +kernel) ⟨Nat.le_of_ble_eq_true rfl, Nat.le_of_ble_eq_true rfl⟩) (fb_v hK hP (va_recv hK hP (ci := 2) (q0 := 0) rfl rfl)) rfl rfl hl.1 rfl (lv_room (Nat.le_of_ble_eq_true rfl)) dX3_whole_274 ⟨Nat.zero_le _, Nat.zero_le _⟩) ?_
                        exact W.lret (v := (m_signed p0 y_29 p1)) hx hb hr (fun t ht hW => ⟨_, rfl, (q_13.trans rfl).symm, ht⟩) (fun _ h => by cases h) dX3_whole_277
                      · skip
                        refine lv_if_eq (tgt := 271) hx hb dX3_whole_258 (by decide) (fun c_30 => ?_) (fun c_30 => ?_)
                        · skip
                          refine lv_lload hx hb dX3_whole_271 (lv_at hl 3 rfl) ?_
                          exact K_y_29 _ (by rw [if_pos c_30])
                        · skip
                          refine lv_lload hx hb dX3_whole_261 (lv_at hl 3 rfl) ?_
                          refine lv_lconst (v := 1) hx hb dX3_whole_263 (by decide) ?_
                          refine lv_iload hx hb dX3_whole_264 (lv_at hl 5 rfl) ?_
                          refine lv_lshl hx hb dX3_whole_266 rfl ?_
                          refine lv_ladd hx hb dX3_whole_267 ?_
                          refine lv_goto (tgt := 273) hx hb dX3_whole_268 (by decide) ?_
                          exact K_y_29 _ (by rw [if_neg c_30])
                    · skip
                      refine lv_if_gt (tgt := 247) hx hb dX3_whole_231 (by decide) (fun c_26 => ?_) (fun c_26 => ?_)
                      · skip
                        have c_26 : y_21 < y_15 := (lg_cmp_gt _ _).mp c_26
                        refine lv_iconst (v := 1) hx hb dX3_whole_247 (by decide) ?_
                        refine lv_goto (tgt := 252) hx hb dX3_whole_248 (by decide) ?_
                        exact K_y_25 _ (by rw [if_pos c_26])
                      · skip
                        have c_26 : ¬ (y_21 < y_15) := fun h => c_26 ((lg_cmp_gt _ _).mpr h)
                        refine lv_lload hx hb dX3_whole_234 (lv_at hl 3 rfl) ?_
                        refine lv_lload hx hb dX3_whole_236 (lv_at hl 1 rfl) ?_
                        refine W.lcmp hx hb dX3_whole_238 ?_
                        refine lv_if_ne (tgt := 251) hx hb dX3_whole_239 (by decide) (fun c_27 => ?_) (fun c_27 => ?_)
                        · skip
                          have c_27 : ¬ (y_15 = y_21) := fun h => c_27 ((lg_cmp_eq _ _).mpr h)
                          refine lv_iconst (v := 0) hx hb dX3_whole_251 (by decide) ?_
                          exact K_y_25 _ (by rw [if_neg c_26, if_neg c_27])
                        · skip
                          have c_27 : y_15 = y_21 := (lg_cmp_eq _ _).mp c_27
                          refine lv_iload hx hb dX3_whole_242 (lv_at hl 0 rfl) ?_
                          refine lv_if_eq (tgt := 251) hx hb dX3_whole_244 (by decide) (fun c_28 => ?_) (fun c_28 => ?_)
                          · skip
                            refine lv_iconst (v := 0) hx hb dX3_whole_251 (by decide) ?_
                            exact K_y_25 _ (by rw [if_neg c_26, if_pos c_27, if_pos c_28])
                          · skip
                            refine lv_iconst (v := 1) hx hb dX3_whole_247 (by decide) ?_
                            refine lv_goto (tgt := 252) hx hb dX3_whole_248 (by decide) ?_
                            exact K_y_25 _ (by rw [if_neg c_26, if_pos c_27, if_neg c_28])
                  · skip
                    refine lv_if_eq (tgt := 219) hx hb dX3_whole_204 (by decide) (fun c_23 => ?_) (fun c_23 => ?_)
                    · skip
                      refine lv_iconst (v := 1) hx hb dX3_whole_219 (by decide) ?_
                      refine lv_goto (tgt := 224) hx hb dX3_whole_220 (by decide) ?_
                      exact K_y_22 _ (by rw [if_pos c_23])
                    · skip
                      refine lv_lload hx hb dX3_whole_207 (lv_at hl 7 rfl) ?_
                      refine lv_iload hx hb dX3_whole_209 (lv_at hl 3 rfl) ?_
                      refine lv_lshr hx hb dX3_whole_211 rfl ?_
                      refine lv_lconst (v := 1) hx hb dX3_whole_212 (by decide) ?_
                      refine lv_land hx hb dX3_whole_213 ?_
                      refine lv_lconst (v := 1) hx hb dX3_whole_214 (by decide) ?_
                      refine W.lcmp hx hb dX3_whole_215 ?_
                      refine lv_if_ne (tgt := 223) hx hb dX3_whole_216 (by decide) (fun c_24 => ?_) (fun c_24 => ?_)
                      · skip
                        have c_24 : ¬ (((y_1 >>> (y_14.toInt64 &&& 63)) &&& (1 : Int64)) = (1 : Int64)) := fun h => c_24 ((lg_cmp_eq _ _).mpr h)
                        refine lv_iconst (v := 0) hx hb dX3_whole_223 (by decide) ?_
                        exact K_y_22 _ (by rw [if_neg c_23, if_neg c_24])
                      · skip
                        have c_24 : ((y_1 >>> (y_14.toInt64 &&& 63)) &&& (1 : Int64)) = (1 : Int64) := (lg_cmp_eq _ _).mp c_24
                        refine lv_iconst (v := 1) hx hb dX3_whole_219 (by decide) ?_
                        refine lv_goto (tgt := 224) hx hb dX3_whole_220 (by decide) ?_
                        exact K_y_22 _ (by rw [if_neg c_23, if_pos c_24])
              · skip
                have c_17 : y_15 = (0 : Int64) := (lg_cmp_eq _ _).mp c_17
                refine lv_lload_n hx hb dX3_whole_186 rfl (lv_at hl 9 rfl) ?_
                exact W.lret (v := p1) hx hb hr (fun t ht hW => ⟨_, rfl, (q_8.trans (by unfold m_whole_8; rw [if_pos c_17])).symm, ht⟩) (fun _ h => by cases h) dX3_whole_187
            · skip
              refine lv_iload hx hb dX3_whole_98 (lv_at hl 7 rfl) ?_
              refine lv_iconst (v := 3) hx hb dX3_whole_100 (by decide) ?_
              refine lv_icmp_ne (tgt := 133) hx hb dX3_whole_101 (by decide) (fun c_31 => ?_) (fun c_31 => ?_)
              · skip
                refine lv_aload_n hx hb dX3_whole_133 rfl (lv_at hl 4 rfl) ?_
                refine lv_iload_n hx hb dX3_whole_134 rfl (lv_at hl 5 rfl) ?_
                refine lv_iload hx hb dX3_whole_135 (lv_at hl 0 rfl) ?_
                refine lv_join (val := if y_9 = 0 then (0 : Int64) else (m_one p0)) (g := fun v => F0 m 149 ls (.long v :: .int p0 :: .ref (b 0) :: [])) (fun y_32 ey_32 => ?_) (fun K_y_32 => ?_)
                · skip
                  have q_14 : m_whole p0 p1 p2 = m_whole_14 p0 p1 p2 y_1 y_2 y_4 y_6 y_9 y_32 := q_5.trans (by unfold m_whole_5; rw [if_neg c_13, if_neg c_31, ey_32])
                  refine lv_lload_n hx hb dX3_whole_149 rfl (lv_at hl 6 rfl) ?_
                  refine cs_l (W.runV (As := [.int p0, .long y_32, .long p1]) (rest := []) ⟨hx, hb, hml, hown, hts⟩ (c_X3_signed l dC dI cI cJ cZ b kd vl lo hi nd so fr tg gn nr kp ah kx st mo ma fa op nx p0 y_32 p1 ) (cwV 3 hts gX3_whole_X3_signed rfl rfl rfl (by decide +kernel) ⟨Nat.le_of_ble_eq_true rfl, Nat.le_of_ble_eq_true rfl⟩) (fb_v hK hP (va_recv hK hP (ci := 2) (q0 := 0) rfl rfl)) rfl rfl hl.1 rfl (lv_room (Nat.le_of_ble_eq_true rfl)) dX3_whole_150 ⟨Nat.zero_le _, Nat.zero_le _⟩) ?_
                  exact W.lret (v := (m_signed p0 y_32 p1)) hx hb hr (fun t ht hW => ⟨_, rfl, (q_14.trans rfl).symm, ht⟩) (fun _ h => by cases h) dX3_whole_153
                · skip
                  refine lv_if_eq (tgt := 148) hx hb dX3_whole_137 (by decide) (fun c_33 => ?_) (fun c_33 => ?_)
                  · skip
                    refine lv_lconst (v := 0) hx hb dX3_whole_148 (by decide) ?_
                    exact K_y_32 _ (by rw [if_pos c_33])
                  · skip
                    refine lv_aload_n hx hb dX3_whole_140 rfl (lv_at hl 4 rfl) ?_
                    refine lv_iload_n hx hb dX3_whole_141 rfl (lv_at hl 5 rfl) ?_
                    refine cs_l (W.runV (As := [.int p0]) (rest := [.int p0, .ref (b 0)]) ⟨hx, hb, hml, hown, hts⟩ (c_X3_one l dC dI cI cJ cZ b kd vl lo hi nd so fr tg gn nr kp ah kx st mo ma fa op nx p0 ) (cwV 1 hts gX3_whole_X3_one rfl rfl rfl (by decide +kernel) ⟨Nat.le_of_ble_eq_true rfl, Nat.le_of_ble_eq_true rfl⟩) (fb_v hK hP (va_recv hK hP (ci := 2) (q0 := 0) rfl rfl)) rfl rfl hl.1 rfl (lv_room (Nat.le_of_ble_eq_true rfl)) dX3_whole_142 ⟨Nat.zero_le _, Nat.zero_le _⟩) ?_
                    refine lv_goto (tgt := 149) hx hb dX3_whole_145 (by decide) ?_
                    exact K_y_32 _ (by rw [if_neg c_33])
              · skip
                refine lv_iload hx hb dX3_whole_104 (lv_at hl 1 rfl) ?_
                refine lv_iconst (v := (-1)) hx hb dX3_whole_106 (by decide) ?_
                refine lv_join (val := if y_6 = (-1 : Int32) then (if y_1 ≤ ((m_one p0) - ((1 : Int64) <<< (y_2.toInt64 &&& 63))) then (0 : Int32) else (1 : Int32)) else (0 : Int32)) (g := fun v => F0 m 131 ls (.int v :: [])) (fun y_34 ey_34 => ?_) (fun K_y_34 => ?_)
                · skip
                  have q_15 : m_whole p0 p1 p2 = m_whole_15 p0 p1 p2 y_1 y_2 y_4 y_6 y_9 y_34 := q_5.trans (by unfold m_whole_5; rw [if_neg c_13, if_pos c_31, ey_34])
                  refine lv_istore (lv' := [(9, .int y_34), (8, .int y_6), (7, .int y_2), (5, .long y_1), (0, .ref (b 0)), (1, .int p0), (2, .long p1), (4, .int p2)]) hx hb dX3_whole_131 hl (by decide) rfl (fun ls hl => ?_)
                  refine lv_aload_n hx hb dX3_whole_133 rfl (lv_at hl 4 rfl) ?_
                  refine lv_iload_n hx hb dX3_whole_134 rfl (lv_at hl 5 rfl) ?_
                  refine lv_iload hx hb dX3_whole_135 (lv_at hl 0 rfl) ?_
                  refine lv_join (val := if y_34 = 0 then (0 : Int64) else (m_one p0)) (g := fun v => F0 m 149 ls (.long v :: .int p0 :: .ref (b 0) :: [])) (fun y_37 ey_37 => ?_) (fun K_y_37 => ?_)
                  · skip
                    have q_16 : m_whole p0 p1 p2 = m_whole_16 p0 p1 p2 y_1 y_2 y_4 y_6 y_9 y_34 y_37 := q_15.trans (by unfold m_whole_15; rw [ey_37])
                    refine lv_lload_n hx hb dX3_whole_149 rfl (lv_at hl 6 rfl) ?_
                    refine cs_l (W.runV (As := [.int p0, .long y_37, .long p1]) (rest := []) ⟨hx, hb, hml, hown, hts⟩ (c_X3_signed l dC dI cI cJ cZ b kd vl lo hi nd so fr tg gn nr kp ah kx st mo ma fa op nx p0 y_37 p1 ) (cwV 3 hts gX3_whole_X3_signed rfl rfl rfl (by decide +kernel) ⟨Nat.le_of_ble_eq_true rfl, Nat.le_of_ble_eq_true rfl⟩) (fb_v hK hP (va_recv hK hP (ci := 2) (q0 := 0) rfl rfl)) rfl rfl hl.1 rfl (lv_room (Nat.le_of_ble_eq_true rfl)) dX3_whole_150 ⟨Nat.zero_le _, Nat.zero_le _⟩) ?_
                    exact W.lret (v := (m_signed p0 y_37 p1)) hx hb hr (fun t ht hW => ⟨_, rfl, (q_16.trans rfl).symm, ht⟩) (fun _ h => by cases h) dX3_whole_153
                  · skip
                    refine lv_if_eq (tgt := 148) hx hb dX3_whole_137 (by decide) (fun c_38 => ?_) (fun c_38 => ?_)
                    · skip
                      refine lv_lconst (v := 0) hx hb dX3_whole_148 (by decide) ?_
                      exact K_y_37 _ (by rw [if_pos c_38])
                    · skip
                      refine lv_aload_n hx hb dX3_whole_140 rfl (lv_at hl 4 rfl) ?_
                      refine lv_iload_n hx hb dX3_whole_141 rfl (lv_at hl 5 rfl) ?_
                      refine cs_l (W.runV (As := [.int p0]) (rest := [.int p0, .ref (b 0)]) ⟨hx, hb, hml, hown, hts⟩ (c_X3_one l dC dI cI cJ cZ b kd vl lo hi nd so fr tg gn nr kp ah kx st mo ma fa op nx p0 ) (cwV 1 hts gX3_whole_X3_one rfl rfl rfl (by decide +kernel) ⟨Nat.le_of_ble_eq_true rfl, Nat.le_of_ble_eq_true rfl⟩) (fb_v hK hP (va_recv hK hP (ci := 2) (q0 := 0) rfl rfl)) rfl rfl hl.1 rfl (lv_room (Nat.le_of_ble_eq_true rfl)) dX3_whole_142 ⟨Nat.zero_le _, Nat.zero_le _⟩) ?_
                      refine lv_goto (tgt := 149) hx hb dX3_whole_145 (by decide) ?_
                      exact K_y_37 _ (by rw [if_neg c_38])
                · skip
                  refine lv_icmp_ne (tgt := 130) hx hb dX3_whole_107 (by decide) (fun c_35 => ?_) (fun c_35 => ?_)
                  · skip
                    refine lv_iconst (v := 0) hx hb dX3_whole_130 (by decide) ?_
                    exact K_y_34 _ (by rw [if_neg c_35])
                  · skip
                    refine lv_lload hx hb dX3_whole_110 (lv_at hl 3 rfl) ?_
                    refine lv_aload_n hx hb dX3_whole_112 rfl (lv_at hl 4 rfl) ?_
                    refine lv_iload_n hx hb dX3_whole_113 rfl (lv_at hl 5 rfl) ?_
                    refine cs_l (W.runV (As := [.int p0]) (rest := [.long y_1]) ⟨hx, hb, hml, hown, hts⟩ (c_X3_one l dC dI cI cJ cZ b kd vl lo hi nd so fr tg gn nr kp ah kx st mo ma fa op nx p0 ) (cwV 1 hts gX3_whole_X3_one rfl rfl rfl (by decide +kernel) ⟨Nat.le_of_ble_eq_true rfl, Nat.le_of_ble_eq_true rfl⟩) (fb_v hK hP (va_recv hK hP (ci := 2) (q0 := 0) rfl rfl)) rfl rfl hl.1 rfl (lv_room (Nat.le_of_ble_eq_true rfl)) dX3_whole_114 ⟨Nat.zero_le _, Nat.zero_le _⟩) ?_
                    refine lv_lconst (v := 1) hx hb dX3_whole_117 (by decide) ?_
                    refine lv_iload hx hb dX3_whole_118 (lv_at hl 2 rfl) ?_
                    refine lv_lshl hx hb dX3_whole_120 rfl ?_
                    refine lv_lsub hx hb dX3_whole_121 ?_
                    refine W.lcmp hx hb dX3_whole_122 ?_
                    refine lv_if_le (tgt := 130) hx hb dX3_whole_123 (by decide) (fun c_36 => ?_) (fun c_36 => ?_)
                    · skip
                      have c_36 : y_1 ≤ ((m_one p0) - ((1 : Int64) <<< (y_2.toInt64 &&& 63))) := (lg_cmp_le _ _).mp c_36
                      refine lv_iconst (v := 0) hx hb dX3_whole_130 (by decide) ?_
                      exact K_y_34 _ (by rw [if_pos c_35, if_pos c_36])
                    · skip
                      have c_36 : ¬ (y_1 ≤ ((m_one p0) - ((1 : Int64) <<< (y_2.toInt64 &&& 63)))) := fun h => c_36 ((lg_cmp_le _ _).mpr h)
                      refine lv_iconst (v := 1) hx hb dX3_whole_126 (by decide) ?_
                      refine lv_goto (tgt := 131) hx hb dX3_whole_127 (by decide) ?_
                      exact K_y_34 _ (by rw [if_pos c_35, if_neg c_36])
          · skip
            refine lv_icmp_ne (tgt := 80) hx hb dX3_whole_63 (by decide) (fun c_10 => ?_) (fun c_10 => ?_)
            · skip
              refine lv_lload_n hx hb dX3_whole_80 rfl (lv_at hl 5 rfl) ?_
              refine lv_lconst (v := 0) hx hb dX3_whole_81 (by decide) ?_
              refine W.lcmp hx hb dX3_whole_82 ?_
              refine lv_if_lt (tgt := 90) hx hb dX3_whole_83 (by decide) (fun c_11 => ?_) (fun c_11 => ?_)
              · skip
                have c_11 : p1 < (0 : Int64) := (lg_cmp_lt _ _).mp c_11
                refine lv_iconst (v := 0) hx hb dX3_whole_90 (by decide) ?_
                exact K_y_9 _ (by rw [if_neg c_10, if_pos c_11])
              · skip
                have c_11 : ¬ (p1 < (0 : Int64)) := fun h => c_11 ((lg_cmp_lt _ _).mpr h)
                refine lv_iconst (v := 1) hx hb dX3_whole_86 (by decide) ?_
                refine lv_goto (tgt := 91) hx hb dX3_whole_87 (by decide) ?_
                exact K_y_9 _ (by rw [if_neg c_10, if_neg c_11])
            · skip
              refine lv_lload_n hx hb dX3_whole_66 rfl (lv_at hl 5 rfl) ?_
              refine lv_lconst (v := 0) hx hb dX3_whole_67 (by decide) ?_
              refine W.lcmp hx hb dX3_whole_68 ?_
              refine lv_if_ge (tgt := 76) hx hb dX3_whole_69 (by decide) (fun c_12 => ?_) (fun c_12 => ?_)
              · skip
                have c_12 : (0 : Int64) ≤ p1 := (lg_cmp_ge _ _).mp c_12
                refine lv_iconst (v := 0) hx hb dX3_whole_76 (by decide) ?_
                refine lv_goto (tgt := 91) hx hb dX3_whole_77 (by decide) ?_
                exact K_y_9 _ (by rw [if_pos c_10, if_pos c_12])
              · skip
                have c_12 : ¬ ((0 : Int64) ≤ p1) := fun h => c_12 ((lg_cmp_ge _ _).mpr h)
                refine lv_iconst (v := 1) hx hb dX3_whole_72 (by decide) ?_
                refine lv_goto (tgt := 91) hx hb dX3_whole_73 (by decide) ?_
                exact K_y_9 _ (by rw [if_pos c_10, if_neg c_12])
        · skip
          refine lv_lload_n hx hb dX3_whole_58 rfl (lv_at hl 5 rfl) ?_
          exact W.lret (v := p1) hx hb hr (fun t ht hW => ⟨_, rfl, (q_4.trans (by unfold m_whole_4; rw [if_neg c_7, if_neg c_8])).symm, ht⟩) (fun _ h => by cases h) dX3_whole_59
    · skip
      refine lv_icmp_ne (tgt := 38) hx hb dX3_whole_30 (by decide) (fun c_5 => ?_) (fun c_5 => ?_)
      · skip
        refine lv_sipush (v := 1023) hx hb dX3_whole_38 (by decide) ?_
        exact K_y_4 _ (by rw [if_neg c_5])
      · skip
        refine lv_bipush (v := 127) hx hb dX3_whole_33 (by decide) ?_
        refine lv_goto (tgt := 41) hx hb dX3_whole_35 (by decide) ?_
        exact K_y_4 _ (by rw [if_pos c_5])
  · skip
    refine lv_icmp_ne (tgt := 18) hx hb dX3_whole_10 (by decide) (fun c_3 => ?_) (fun c_3 => ?_)
    · skip
      refine lv_bipush (v := 52) hx hb dX3_whole_18 (by decide) ?_
      exact K_y_2 _ (by rw [if_neg c_3])
    · skip
      refine lv_bipush (v := 23) hx hb dX3_whole_13 (by decide) ?_
      refine lv_goto (tgt := 20) hx hb dX3_whole_15 (by decide) ?_
      exact K_y_2 _ (by rw [if_pos c_3])
def m_turned (p0 : Int32) (p1 : Int64) (p2 : Int32) : Int64 :=
  if p2 = 0 then (m_sizeOf p0 p1)
  else if (4 : Int32) ≤ p2 then (if (m_plain p0 p1) = (0 : Int64) then p1
      else (m_signed p0 (m_one p0) p1))
    else (m_whole p0 p1 p2)
set_option maxHeartbeats 4000000 in
set_option maxRecDepth 100000 in
theorem c_X3_turned (l : Launch) (dC : Nat → ClassId) (dI : Nat → Nat → Nat) (cI cJ cZ : ClassId) (b : Nat → Nat) (kd : Nat → Int32) (vl : Nat → Int64) (lo : Nat → Int64) (hi : Nat → Int64) (nd : Int32) (so : Nat → Int32) (fr : Nat → Int32) (tg : Nat → Int32) (gn : Nat → Int32) (nr : Int32) (kp : Nat → Int64) (ah : Nat → Int64) (kx : Nat → Int32) (st : Int32) (mo : Int32) (ma : Int32) (fa : Int32) (op : Nat → Int32) (nx : Nat → Int32) (p0 : Int32) (p1 : Int64) (p2 : Int32) : Met l yX3_turned wsX3_turned ({ frames := 2, cells := 0, slots := 0, locals := 62 }) (va_Pc [.ref (b 0), .int p0, .long p1, .int p2] (fun U => va_P (dC, dI) vwCl (wM cI cJ cZ b kd vl lo hi nd so fr tg gn nr kp ah kx st mo ma fa op nx) U.heap ∧ va_K (dC, dI) vwCl (tA cI cJ cZ) U)) (vp_Sl (fun r => r = m_turned p0 p1 p2)) 0 0 (fun _ => False) := by
  refine Met.ofW (cc := cX3_turned) (maxL := 5) (ret := (some .long)) (by decide) rfl ?_
  intro p e s m args below meth c s₁ B hml hv
  obtain ⟨rfl, hP, hK⟩ := hv
  have hx := B.exec
  have hb := B.bytes
  have hr := B.returns
  have hts := atoms_spec (ws := wsX3_turned) B.pre
  have hown : s.vm.findClass RX3 = some m.cls := findClass_of_methodNamed B.named
  have hlocks := B.notSynchronized
  have hl := lv_entry ([.ref (b 0), .int p0, .long p1, .int p2]) (n := 5) (Nat.le_of_ble_eq_true rfl)
  rw [lg_entry_eq]
  generalize (lg_sl ([.ref (b 0), .int p0, .long p1, .int p2]) ++ List.replicate (5 - (lg_sl ([.ref (b 0), .int p0, .long p1, .int p2])).length) Slot.unset).toArray = ls at hl ⊢
  have hl : lv_has ls 5 [(0, .ref (b 0)), (1, .int p0), (2, .long p1), (4, .int p2)] := hl
  refine lv_iload hx hb dX3_turned_0 (lv_at hl 3 rfl) ?_
  refine lv_if_ne (tgt := 12) hx hb dX3_turned_2 (by decide) (fun c_1 => ?_) (fun c_1 => ?_)
  · skip
    refine lv_iload hx hb dX3_turned_12 (lv_at hl 3 rfl) ?_
    refine lv_iconst (v := 4) hx hb dX3_turned_14 (by decide) ?_
    refine lv_icmp_ge (tgt := 27) hx hb dX3_turned_15 (by decide) (fun c_2 => ?_) (fun c_2 => ?_)
    · skip
      refine lv_aload_n hx hb dX3_turned_27 rfl (lv_at hl 0 rfl) ?_
      refine lv_iload_n hx hb dX3_turned_28 rfl (lv_at hl 1 rfl) ?_
      refine lv_lload_n hx hb dX3_turned_29 rfl (lv_at hl 2 rfl) ?_
      refine cs_l (W.runV (As := [.int p0, .long p1]) (rest := []) ⟨hx, hb, hml, hown, hts⟩ (c_X3_plain l dC dI cI cJ cZ b kd vl lo hi nd so fr tg gn nr kp ah kx st mo ma fa op nx p0 p1 ) (cwV 2 hts gX3_turned_X3_plain rfl rfl rfl (by decide +kernel) ⟨Nat.le_of_ble_eq_true rfl, Nat.le_of_ble_eq_true rfl⟩) (fb_v hK hP (va_recv hK hP (ci := 2) (q0 := 0) rfl rfl)) rfl rfl hl.1 rfl (lv_room (Nat.le_of_ble_eq_true rfl)) dX3_turned_30 ⟨Nat.zero_le _, Nat.zero_le _⟩) ?_
      refine lv_lconst (v := 0) hx hb dX3_turned_33 (by decide) ?_
      refine W.lcmp hx hb dX3_turned_34 ?_
      refine lv_if_ne (tgt := 42) hx hb dX3_turned_35 (by decide) (fun c_3 => ?_) (fun c_3 => ?_)
      · skip
        have c_3 : ¬ ((m_plain p0 p1) = (0 : Int64)) := fun h => c_3 ((lg_cmp_eq _ _).mpr h)
        refine lv_aload_n hx hb dX3_turned_42 rfl (lv_at hl 0 rfl) ?_
        refine lv_iload_n hx hb dX3_turned_43 rfl (lv_at hl 1 rfl) ?_
        refine lv_aload_n hx hb dX3_turned_44 rfl (lv_at hl 0 rfl) ?_
        refine lv_iload_n hx hb dX3_turned_45 rfl (lv_at hl 1 rfl) ?_
        refine cs_l (W.runV (As := [.int p0]) (rest := [.int p0, .ref (b 0)]) ⟨hx, hb, hml, hown, hts⟩ (c_X3_one l dC dI cI cJ cZ b kd vl lo hi nd so fr tg gn nr kp ah kx st mo ma fa op nx p0 ) (cwV 1 hts gX3_turned_X3_one rfl rfl rfl (by decide +kernel) ⟨Nat.le_of_ble_eq_true rfl, Nat.le_of_ble_eq_true rfl⟩) (fb_v hK hP (va_recv hK hP (ci := 2) (q0 := 0) rfl rfl)) rfl rfl hl.1 rfl (lv_room (Nat.le_of_ble_eq_true rfl)) dX3_turned_46 ⟨Nat.zero_le _, Nat.zero_le _⟩) ?_
        refine lv_lload_n hx hb dX3_turned_49 rfl (lv_at hl 2 rfl) ?_
        refine cs_l (W.runV (As := [.int p0, .long (m_one p0), .long p1]) (rest := []) ⟨hx, hb, hml, hown, hts⟩ (c_X3_signed l dC dI cI cJ cZ b kd vl lo hi nd so fr tg gn nr kp ah kx st mo ma fa op nx p0 (m_one p0) p1 ) (cwV 3 hts gX3_turned_X3_signed rfl rfl rfl (by decide +kernel) ⟨Nat.le_of_ble_eq_true rfl, Nat.le_of_ble_eq_true rfl⟩) (fb_v hK hP (va_recv hK hP (ci := 2) (q0 := 0) rfl rfl)) rfl rfl hl.1 rfl (lv_room (Nat.le_of_ble_eq_true rfl)) dX3_turned_50 ⟨Nat.zero_le _, Nat.zero_le _⟩) ?_
        exact W.lret (v := (m_signed p0 (m_one p0) p1)) hx hb hr (fun t ht hW => ⟨_, rfl, (by unfold m_turned; rw [if_neg c_1, if_pos c_2, if_neg c_3]), ht⟩) (fun _ h => by cases h) dX3_turned_53
      · skip
        have c_3 : (m_plain p0 p1) = (0 : Int64) := (lg_cmp_eq _ _).mp c_3
        refine lv_lload_n hx hb dX3_turned_38 rfl (lv_at hl 2 rfl) ?_
        refine lv_goto (tgt := 53) hx hb dX3_turned_39 (by decide) ?_
        exact W.lret (v := p1) hx hb hr (fun t ht hW => ⟨_, rfl, (by unfold m_turned; rw [if_neg c_1, if_pos c_2, if_pos c_3]), ht⟩) (fun _ h => by cases h) dX3_turned_53
    · skip
      refine lv_aload_n hx hb dX3_turned_18 rfl (lv_at hl 0 rfl) ?_
      refine lv_iload_n hx hb dX3_turned_19 rfl (lv_at hl 1 rfl) ?_
      refine lv_lload_n hx hb dX3_turned_20 rfl (lv_at hl 2 rfl) ?_
      refine lv_iload hx hb dX3_turned_21 (lv_at hl 3 rfl) ?_
      refine cs_l (W.runV (As := [.int p0, .long p1, .int p2]) (rest := []) ⟨hx, hb, hml, hown, hts⟩ (c_X3_whole l dC dI cI cJ cZ b kd vl lo hi nd so fr tg gn nr kp ah kx st mo ma fa op nx p0 p1 p2 ) (cwV 3 hts gX3_turned_X3_whole rfl rfl rfl (by decide +kernel) ⟨Nat.le_of_ble_eq_true rfl, Nat.le_of_ble_eq_true rfl⟩) (fb_v hK hP (va_recv hK hP (ci := 2) (q0 := 0) rfl rfl)) rfl rfl hl.1 rfl (lv_room (Nat.le_of_ble_eq_true rfl)) dX3_turned_23 ⟨Nat.zero_le _, Nat.zero_le _⟩) ?_
      exact W.lret (v := (m_whole p0 p1 p2)) hx hb hr (fun t ht hW => ⟨_, rfl, (by unfold m_turned; rw [if_neg c_1, if_neg c_2]), ht⟩) (fun _ h => by cases h) dX3_turned_26
  · skip
    refine lv_aload_n hx hb dX3_turned_5 rfl (lv_at hl 0 rfl) ?_
    refine lv_iload_n hx hb dX3_turned_6 rfl (lv_at hl 1 rfl) ?_
    refine lv_lload_n hx hb dX3_turned_7 rfl (lv_at hl 2 rfl) ?_
    refine cs_l (W.runV (As := [.int p0, .long p1]) (rest := []) ⟨hx, hb, hml, hown, hts⟩ (c_X3_sizeOf l dC dI cI cJ cZ b kd vl lo hi nd so fr tg gn nr kp ah kx st mo ma fa op nx p0 p1 ) (cwV 2 hts gX3_turned_X3_sizeOf rfl rfl rfl (by decide +kernel) ⟨Nat.le_of_ble_eq_true rfl, Nat.le_of_ble_eq_true rfl⟩) (fb_v hK hP (va_recv hK hP (ci := 2) (q0 := 0) rfl rfl)) rfl rfl hl.1 rfl (lv_room (Nat.le_of_ble_eq_true rfl)) dX3_turned_8 ⟨Nat.zero_le _, Nat.zero_le _⟩) ?_
    exact W.lret (v := (m_sizeOf p0 p1)) hx hb hr (fun t ht hW => ⟨_, rfl, (by unfold m_turned; rw [if_pos c_1]), ht⟩) (fun _ h => by cases h) dX3_turned_11
end
section
def okE (se sh : Int32) : Prop := 0 ≤ se ∧ se ≤ 5 ∧ 0 ≤ sh ∧ sh ≤ 6
def smI (x : Int32) : Prop := ∃ n : Nat, n < 100 ∧ x = nI n
theorem smI_of {x M : Int32} {n : Nat} (hM : M.toInt = n) (hn : n < 100) (h0 : 0 ≤ x) (h1 : x ≤ M) : smI x := by
  obtain ⟨j, hj, rfl⟩ := nI_of2 hM (Int32.not_lt.mpr h0) h1
  exact ⟨j, by omega, rfl⟩
theorem smI_se {se sh : Int32} (h : okE se sh) : smI se := smI_of (M := 5) (n := 5) (by decide) (by decide) h.1 h.2.1
theorem smI_sh {se sh : Int32} (h : okE se sh) : smI sh := smI_of (M := 6) (n := 6) (by decide) (by decide) h.2.2.1 h.2.2.2
theorem rem6 {n : Nat} (h : n < 2 ^ 31) : nI n - nI n / 6 * 6 = nI (n % 6) := pk_rem (d := 6) h (by decide) (by decide)
theorem smI_up {x : Int32} (h : smI x) : smI (x + 1 - (x + 1) / 6 * 6) := by
  obtain ⟨n, hn, rfl⟩ := h
  rw [nI_1, rem6 (by omega)]
  exact ⟨_, by omega, rfl⟩
theorem smI_dn {x : Int32} (h : x = 6) : smI (x - 1) := by
  subst h
  exact ⟨5, by decide, by decide⟩
theorem slot_in {x y : Int32} (hx : smI x) (hy : smI y) : vp_in (x + y - (x + y) / 6 * 6) 6 := by
  obtain ⟨n, hn, rfl⟩ := hx
  obtain ⟨k, hk, rfl⟩ := hy
  rw [nI_add, rem6 (by omega)]
  exact vp_in_nI (Nat.mod_lt _ (by decide)) (by decide)
theorem cp_lo {x : Int32} (hx : vp_in x 6) : ¬ x * 16 < 0 := by
  obtain ⟨j, hj, rfl⟩ := vp_in_of hx (by decide)
  rw [show (16 : Int32) = nI 16 from rfl, pk_mul]
  exact nI_pos (by omega)
theorem cp_hi {x n : Int32} (hx : vp_in x 6) (hn : 0 ≤ n ∧ n ≤ 16) : (x * 16).toNatClampNeg + n.toNatClampNeg ≤ 96 := by
  obtain ⟨j, hj, rfl⟩ := vp_in_of hx (by decide)
  obtain ⟨k, hk, rfl⟩ := nI_of2 (M := 16) (n := 16) (by decide) (Int32.not_lt.mpr hn.1) hn.2
  rw [show (16 : Int32) = nI 16 from rfl, pk_mul, nI_clamp (by omega), nI_clamp (by omega)]
  omega
theorem cp_src {n : Int32} (hn : 0 ≤ n ∧ n ≤ 16) : (0 : Int32).toNatClampNeg + n.toNatClampNeg ≤ 16 := by
  obtain ⟨k, hk, rfl⟩ := nI_of2 (M := 16) (n := 16) (by decide) (Int32.not_lt.mpr hn.1) hn.2
  rw [nI_clamp (by omega)]
  show 0 + k ≤ 16
  omega
def k_se (se sh : Int32) : Int32 := if sh = 6 then se + 1 - (se + 1) / 6 * 6 else se
def k_s0 (sh : Int32) : Int32 := if sh = 6 then sh - 1 else sh
def k_slot (se sh : Int32) : Int32 := k_se se sh + k_s0 sh - (k_se se sh + k_s0 sh) / 6 * 6
def k_sd (sd : Nat → Int32) (se sh n : Int32) : Nat → Int32 := upd sd (k_slot se sh).toNatClampNeg n
def k_sv (vl sv : Nat → Int64) (se sh n : Int32) : Nat → Int64 := va_cpy vl sv (0 : Int32).toNatClampNeg (k_slot se sh * 16).toNatClampNeg n.toNatClampNeg
def k_sh (sh : Int32) : Int32 := k_s0 sh + 1
def s_keep (kd : Nat → Int32) (lo : Nat → Int64) (hi : Nat → Int64) (vl : Nat → Int64) (nd : Int32) (so : Nat → Int32) (fr : Nat → Int32) (tg : Nat → Int32) (gn : Nat → Int32) (nr : Int32) (mo : Int32) (ma : Int32) (fa : Int32) (sv : Nat → Int64) (sd : Nat → Int32) (se : Int32) (sh : Int32) (p1 : Int32) : XS :=
  if sh = (6 : Int32) then (kd, lo, hi, vl, nd, so, fr, tg, gn, nr, mo, ma, fa, (va_cpy vl sv (0 : Int32).toNatClampNeg (((((se + (1 : Int32)) - (se + (1 : Int32)) / (6 : Int32) * (6 : Int32)) + (sh - (1 : Int32))) - (((se + (1 : Int32)) - (se + (1 : Int32)) / (6 : Int32) * (6 : Int32)) + (sh - (1 : Int32))) / (6 : Int32) * (6 : Int32)) * (16 : Int32)).toNatClampNeg p1.toNatClampNeg), (upd sd ((((se + (1 : Int32)) - (se + (1 : Int32)) / (6 : Int32) * (6 : Int32)) + (sh - (1 : Int32))) - (((se + (1 : Int32)) - (se + (1 : Int32)) / (6 : Int32) * (6 : Int32)) + (sh - (1 : Int32))) / (6 : Int32) * (6 : Int32)).toNatClampNeg p1), ((se + (1 : Int32)) - (se + (1 : Int32)) / (6 : Int32) * (6 : Int32)), ((sh - (1 : Int32)) + (1 : Int32)))
  else (kd, lo, hi, vl, nd, so, fr, tg, gn, nr, mo, ma, fa, (va_cpy vl sv (0 : Int32).toNatClampNeg (((se + sh) - (se + sh) / (6 : Int32) * (6 : Int32)) * (16 : Int32)).toNatClampNeg p1.toNatClampNeg), (upd sd ((se + sh) - (se + sh) / (6 : Int32) * (6 : Int32)).toNatClampNeg p1), se, (sh + (1 : Int32)))
set_option maxHeartbeats 4000000 in
set_option maxRecDepth 100000 in
theorem c_X1_keep (l : Launch) (dC : Nat → ClassId) (dI : Nat → Nat → Nat) (cI cJ cZ : ClassId) (a : Nat → Nat) (kd : Nat → Int32) (lo : Nat → Int64) (hi : Nat → Int64) (vl : Nat → Int64) (nd : Int32) (so : Nat → Int32) (fr : Nat → Int32) (tg : Nat → Int32) (gn : Nat → Int32) (nr : Int32) (mo : Int32) (ma : Int32) (fa : Int32) (sv : Nat → Int64) (sd : Nat → Int32) (se : Int32) (sh : Int32) (p1 : Int32) (hE : okE se sh) (hp : 0 ≤ p1 ∧ p1 ≤ 16) (sz : Nat) : Met l yX1_keep wsX1_keep ({ frames := 1, cells := 0, slots := 0, locals := 26 }) (va_Pc [.ref (a 9), .ref (a 4), .int p1] (fun U => U.heap.size = sz ∧ va_P (dC, dI) vwCl (wX cI cJ cZ a kd lo hi vl nd so fr tg gn nr mo ma fa sv sd se sh) U.heap ∧ va_K (dC, dI) vwCl (tA cI cJ cZ) U ∧ va_D (fun _ => True) (wX cI cJ cZ a kd lo hi vl nd so fr tg gn nr mo ma fa sv sd se sh))) (va_Qv (fun (u : XS) => u = s_keep kd lo hi vl nd so fr tg gn nr mo ma fa sv sd se sh p1) (at_X dC dI cI cJ cZ (va_A (wX cI cJ cZ a kd lo hi vl nd so fr tg gn nr mo ma fa sv sd se sh) sz) a) (va_A (wX cI cJ cZ a kd lo hi vl nd so fr tg gn nr mo ma fa sv sd se sh) sz)) 0 0 (va_A (wX cI cJ cZ a kd lo hi vl nd so fr tg gn nr mo ma fa sv sd se sh) sz) := by
  refine Met.ofW (cc := cX1_keep) (maxL := 4) (ret := none) (by decide) rfl ?_
  intro p e s m args below meth c s₁ B hml hv
  obtain ⟨rfl, hsz, hP, hK, hD0⟩ := hv
  subst hsz
  have hD := hD0.self (sz := s.heap.size)
  generalize hAe : va_A (wX cI cJ cZ a kd lo hi vl nd so fr tg gn nr mo ma fa sv sd se sh) s.heap.size = A at hD ⊢
  have hA : ∀ q : Nat, s.heap.size ≤ q → A q := fun q h => by rw [← hAe]; exact Or.inr h
  have hS : va_S A s.heap s.heap [] := va_S.rf
  have hP : va_P (dC, dI) vwCl (wX cI cJ cZ a kd lo hi vl nd so fr tg gn nr mo ma fa sv sd se sh) s.heap := hP
  have hx := B.exec
  have hb := B.bytes
  have hr := B.returns
  have hts := atoms_spec (ws := wsX1_keep) B.pre
  have hown : s.vm.findClass RX1 = some m.cls := findClass_of_methodNamed B.named
  have hlocks := B.notSynchronized
  have h_inX1 : ∀ w ∈ wsX10, w ∈ wsX1_keep := fun _ h => List.mem_cons_of_mem _ (List.mem_append_right _ h)
  have k_0 := hts (.fieldLink RX1 19 "DetentCabinet$Steps" "held" "I") (by decide +kernel)
  have k_1 := hts (.fieldLink RX1 23 "DetentCabinet$Steps" "earliest" "I") (by decide +kernel)
  have k_2 := hts (.fieldLink RX1 15 "DetentCabinet$Steps" "dialsAhead" "[I") (by decide +kernel)
  have k_3 := hts (.fieldLink RX1 9 "DetentCabinet$Steps" "valuesAhead" "[J") (by decide +kernel)
  have k_4 := hts (.methodLink RX1 26 arraycopyName) (by decide +kernel)
  have k_5 := hts (.native arraycopyName) (by decide +kernel)
  have k_6 := hts (.static arraycopyName) (by decide +kernel)
  have k_7 := hts (.initialized "java/lang/System") (by decide +kernel)
  have hl := lv_entry ([.ref (a 9), .ref (a 4), .int p1]) (n := 4) (Nat.le_of_ble_eq_true rfl)
  rw [lg_entry_eq]
  generalize (lg_sl ([.ref (a 9), .ref (a 4), .int p1]) ++ List.replicate (4 - (lg_sl ([.ref (a 9), .ref (a 4), .int p1])).length) Slot.unset).toArray = ls at hl ⊢
  have hl : lv_has ls 4 [(0, .ref (a 9)), (1, .ref (a 4)), (2, .int p1)] := hl
  refine lv_aload_n hx hb dX1_keep_0 rfl (lv_at hl 0 rfl) ?_
  refine va_get (D := (dC, dI)) (ci := 0) (v := .int sh) (C := RX1) (T := TX1) (N := 4) hx hb hts h_inX1 hown hK hP 9 rfl rfl 3 (by decide) k_0 (fun _ h9 => h9) rfl dX1_keep_1 ?_
  refine lv_bipush (v := 6) hx hb dX1_keep_4 (by decide) ?_
  refine lv_icmp_ne (tgt := 32) hx hb dX1_keep_6 (by decide) (fun c_1 => ?_) (fun c_1 => ?_)
  · skip
    refine lv_aload_n hx hb dX1_keep_32 rfl (lv_at hl 0 rfl) ?_
    refine va_get (D := (dC, dI)) (ci := 0) (v := .int se) (C := RX1) (T := TX1) (N := 4) hx hb hts h_inX1 hown hK hP 9 rfl rfl 2 (by decide) k_1 (fun _ h9 => h9) rfl dX1_keep_33 ?_
    refine lv_aload_n hx hb dX1_keep_36 rfl (lv_at hl 0 rfl) ?_
    refine va_get (D := (dC, dI)) (ci := 0) (v := .int sh) (C := RX1) (T := TX1) (N := 4) hx hb hts h_inX1 hown hK hP 9 rfl rfl 3 (by decide) k_0 (fun _ h9 => h9) rfl dX1_keep_37 ?_
    refine lv_iadd hx hb dX1_keep_40 ?_
    refine lv_bipush (v := 6) hx hb dX1_keep_41 (by decide) ?_
    refine lv_irem hx hb dX1_keep_43 (by decide) ?_
    refine lv_istore_n (lv' := [(3, .int ((se + sh) - (se + sh) / (6 : Int32) * (6 : Int32))), (0, .ref (a 9)), (1, .ref (a 4)), (2, .int p1)]) hx hb dX1_keep_44 rfl hl (by decide) rfl (fun ls hl => ?_)
    refine lv_aload_n hx hb dX1_keep_45 rfl (lv_at hl 1 rfl) ?_
    refine va_get (D := (dC, dI)) (ci := 0) (v := .ref (a 11)) (C := RX1) (T := TX1) (N := 4) hx hb hts h_inX1 hown hK hP 9 rfl rfl 1 (by decide) k_2 (fun _ h9 => h9) rfl dX1_keep_46 ?_
    refine lv_iload_n hx hb dX1_keep_49 rfl (lv_at hl 0 rfl) ?_
    refine lv_iload_n hx hb dX1_keep_50 rfl (lv_at hl 3 rfl) ?_
    refine va_iast hx hb hK hP hD hS 11 0 rfl rfl (slot_in (smI_se hE) (smI_sh hE)) dX1_keep_51 (fun H locs hP hD hS => ?_)
    have hP : va_P (dC, dI) vwCl (wX cI cJ cZ a kd lo hi vl nd so fr tg gn nr mo ma fa sv (upd sd ((se + sh) - (se + sh) / (6 : Int32) * (6 : Int32)).toNatClampNeg p1) se sh) H := hP
    have hD : va_D A (wX cI cJ cZ a kd lo hi vl nd so fr tg gn nr mo ma fa sv (upd sd ((se + sh) - (se + sh) / (6 : Int32) * (6 : Int32)).toNatClampNeg p1) se sh) := hD
    refine lv_aload_n hx hb dX1_keep_52 rfl (lv_at hl 2 rfl) ?_
    refine lv_iconst (v := 0) hx hb dX1_keep_53 (by decide) ?_
    refine lv_aload_n hx hb dX1_keep_54 rfl (lv_at hl 1 rfl) ?_
    refine va_get (D := (dC, dI)) (ci := 0) (v := .ref (a 10)) (C := RX1) (T := TX1) (N := 4) hx hb hts h_inX1 hown hK hP 9 rfl rfl 0 (by decide) k_3 (fun _ h9 => h9) rfl dX1_keep_55 ?_
    refine lv_iload_n hx hb dX1_keep_58 rfl (lv_at hl 0 rfl) ?_
    refine lv_bipush (v := 16) hx hb dX1_keep_59 (by decide) ?_
    refine lv_imul hx hb dX1_keep_61 ?_
    refine lv_iload_n hx hb dX1_keep_62 rfl (lv_at hl 3 rfl) ?_
    refine va_copyl hx hb (by rw [hml, hl.1]) hown k_4 k_5 k_6 k_7 hK hP hD hS 4 10 1 1 rfl rfl rfl rfl rfl (by decide) (cp_lo (slot_in (smI_se hE) (smI_sh hE))) (Int32.not_lt.mpr hp.1) (cp_src hp) (cp_hi (slot_in (smI_se hE) (smI_sh hE)) hp) (fun _ _ => rfl) (Nat.le_of_ble_eq_true rfl) (Nat.le_of_ble_eq_true rfl) dX1_keep_63 (fun H locs hP hD hS => ?_)
    have hP : va_P (dC, dI) vwCl (wX cI cJ cZ a kd lo hi vl nd so fr tg gn nr mo ma fa (va_cpy vl sv (0 : Int32).toNatClampNeg (((se + sh) - (se + sh) / (6 : Int32) * (6 : Int32)) * (16 : Int32)).toNatClampNeg p1.toNatClampNeg) (upd sd ((se + sh) - (se + sh) / (6 : Int32) * (6 : Int32)).toNatClampNeg p1) se sh) H := hP
    have hD : va_D A (wX cI cJ cZ a kd lo hi vl nd so fr tg gn nr mo ma fa (va_cpy vl sv (0 : Int32).toNatClampNeg (((se + sh) - (se + sh) / (6 : Int32) * (6 : Int32)) * (16 : Int32)).toNatClampNeg p1.toNatClampNeg) (upd sd ((se + sh) - (se + sh) / (6 : Int32) * (6 : Int32)).toNatClampNeg p1) se sh) := hD
    refine lv_aload_n hx hb dX1_keep_66 rfl (lv_at hl 1 rfl) ?_
    refine lv_dup hx hb dX1_keep_67 rfl ?_
    refine va_get (D := (dC, dI)) (ci := 0) (v := .int sh) (C := RX1) (T := TX1) (N := 4) hx hb hts h_inX1 hown hK hP 9 rfl rfl 3 (by decide) k_0 (fun _ h9 => h9) rfl dX1_keep_68 ?_
    refine lv_iconst (v := 1) hx hb dX1_keep_71 (by decide) ?_
    refine lv_iadd hx hb dX1_keep_72 ?_
    refine va_put (D := (dC, dI)) (ci := 0) (v := .int (sh + (1 : Int32))) (ty := .int) (C := RX1) (T := TX1) (N := 4) hx hb hts h_inX1 tyX1 tyX1_ok nmX1 hown hK hP hD hS 9 rfl rfl 3 (by decide) k_0 (fun _ h9 => h9) rfl (by decide +kernel) rfl rfl (Nat.le_of_ble_eq_true rfl) dX1_keep_73 (fun H locs hP hD hS => ?_)
    have hP : va_P (dC, dI) vwCl (wX cI cJ cZ a kd lo hi vl nd so fr tg gn nr mo ma fa (va_cpy vl sv (0 : Int32).toNatClampNeg (((se + sh) - (se + sh) / (6 : Int32) * (6 : Int32)) * (16 : Int32)).toNatClampNeg p1.toNatClampNeg) (upd sd ((se + sh) - (se + sh) / (6 : Int32) * (6 : Int32)).toNatClampNeg p1) se (sh + (1 : Int32))) H := hP
    have hD : va_D A (wX cI cJ cZ a kd lo hi vl nd so fr tg gn nr mo ma fa (va_cpy vl sv (0 : Int32).toNatClampNeg (((se + sh) - (se + sh) / (6 : Int32) * (6 : Int32)) * (16 : Int32)).toNatClampNeg p1.toNatClampNeg) (upd sd ((se + sh) - (se + sh) / (6 : Int32) * (6 : Int32)).toNatClampNeg p1) se (sh + (1 : Int32))) := hD
    exact W.vret hx hb hr (fun t ht hW => ⟨⟨(kd, lo, hi, vl, nd, so, fr, tg, gn, nr, mo, ma, fa, (va_cpy vl sv (0 : Int32).toNatClampNeg (((se + sh) - (se + sh) / (6 : Int32) * (6 : Int32)) * (16 : Int32)).toNatClampNeg p1.toNatClampNeg), (upd sd ((se + sh) - (se + sh) / (6 : Int32) * (6 : Int32)).toNatClampNeg p1), se, (sh + (1 : Int32))), rfl, (by unfold s_keep; rw [if_neg c_1]), by rw [ht]; exact hP, va_K.moved hW.alike hK, hD⟩, hS.F ht⟩) hS.2.2 dX1_keep_76
  · skip
    refine lv_aload_n hx hb dX1_keep_9 rfl (lv_at hl 0 rfl) ?_
    refine lv_aload_n hx hb dX1_keep_10 rfl (lv_at hl 0 rfl) ?_
    refine va_get (D := (dC, dI)) (ci := 0) (v := .int se) (C := RX1) (T := TX1) (N := 4) hx hb hts h_inX1 hown hK hP 9 rfl rfl 2 (by decide) k_1 (fun _ h9 => h9) rfl dX1_keep_11 ?_
    refine lv_iconst (v := 1) hx hb dX1_keep_14 (by decide) ?_
    refine lv_iadd hx hb dX1_keep_15 ?_
    refine lv_bipush (v := 6) hx hb dX1_keep_16 (by decide) ?_
    refine lv_irem hx hb dX1_keep_18 (by decide) ?_
    refine va_put (D := (dC, dI)) (ci := 0) (v := .int ((se + (1 : Int32)) - (se + (1 : Int32)) / (6 : Int32) * (6 : Int32))) (ty := .int) (C := RX1) (T := TX1) (N := 4) hx hb hts h_inX1 tyX1 tyX1_ok nmX1 hown hK hP hD hS 9 rfl rfl 2 (by decide) k_1 (fun _ h9 => h9) rfl (by decide +kernel) rfl rfl (Nat.le_of_ble_eq_true rfl) dX1_keep_19 (fun H locs hP hD hS => ?_)
    have hP : va_P (dC, dI) vwCl (wX cI cJ cZ a kd lo hi vl nd so fr tg gn nr mo ma fa sv sd ((se + (1 : Int32)) - (se + (1 : Int32)) / (6 : Int32) * (6 : Int32)) sh) H := hP
    have hD : va_D A (wX cI cJ cZ a kd lo hi vl nd so fr tg gn nr mo ma fa sv sd ((se + (1 : Int32)) - (se + (1 : Int32)) / (6 : Int32) * (6 : Int32)) sh) := hD
    refine lv_aload_n hx hb dX1_keep_22 rfl (lv_at hl 0 rfl) ?_
    refine lv_dup hx hb dX1_keep_23 rfl ?_
    refine va_get (D := (dC, dI)) (ci := 0) (v := .int sh) (C := RX1) (T := TX1) (N := 4) hx hb hts h_inX1 hown hK hP 9 rfl rfl 3 (by decide) k_0 (fun _ h9 => h9) rfl dX1_keep_24 ?_
    refine lv_iconst (v := 1) hx hb dX1_keep_27 (by decide) ?_
    refine lv_isub hx hb dX1_keep_28 ?_
    refine va_put (D := (dC, dI)) (ci := 0) (v := .int (sh - (1 : Int32))) (ty := .int) (C := RX1) (T := TX1) (N := 4) hx hb hts h_inX1 tyX1 tyX1_ok nmX1 hown hK hP hD hS 9 rfl rfl 3 (by decide) k_0 (fun _ h9 => h9) rfl (by decide +kernel) rfl rfl (Nat.le_of_ble_eq_true rfl) dX1_keep_29 (fun H locs hP hD hS => ?_)
    have hP : va_P (dC, dI) vwCl (wX cI cJ cZ a kd lo hi vl nd so fr tg gn nr mo ma fa sv sd ((se + (1 : Int32)) - (se + (1 : Int32)) / (6 : Int32) * (6 : Int32)) (sh - (1 : Int32))) H := hP
    have hD : va_D A (wX cI cJ cZ a kd lo hi vl nd so fr tg gn nr mo ma fa sv sd ((se + (1 : Int32)) - (se + (1 : Int32)) / (6 : Int32) * (6 : Int32)) (sh - (1 : Int32))) := hD
    refine lv_aload_n hx hb dX1_keep_32 rfl (lv_at hl 0 rfl) ?_
    refine va_get (D := (dC, dI)) (ci := 0) (v := .int ((se + (1 : Int32)) - (se + (1 : Int32)) / (6 : Int32) * (6 : Int32))) (C := RX1) (T := TX1) (N := 4) hx hb hts h_inX1 hown hK hP 9 rfl rfl 2 (by decide) k_1 (fun _ h9 => h9) rfl dX1_keep_33 ?_
    refine lv_aload_n hx hb dX1_keep_36 rfl (lv_at hl 0 rfl) ?_
    refine va_get (D := (dC, dI)) (ci := 0) (v := .int (sh - (1 : Int32))) (C := RX1) (T := TX1) (N := 4) hx hb hts h_inX1 hown hK hP 9 rfl rfl 3 (by decide) k_0 (fun _ h9 => h9) rfl dX1_keep_37 ?_
    refine lv_iadd hx hb dX1_keep_40 ?_
    refine lv_bipush (v := 6) hx hb dX1_keep_41 (by decide) ?_
    refine lv_irem hx hb dX1_keep_43 (by decide) ?_
    refine lv_istore_n (lv' := [(3, .int ((((se + (1 : Int32)) - (se + (1 : Int32)) / (6 : Int32) * (6 : Int32)) + (sh - (1 : Int32))) - (((se + (1 : Int32)) - (se + (1 : Int32)) / (6 : Int32) * (6 : Int32)) + (sh - (1 : Int32))) / (6 : Int32) * (6 : Int32))), (0, .ref (a 9)), (1, .ref (a 4)), (2, .int p1)]) hx hb dX1_keep_44 rfl hl (by decide) rfl (fun ls hl => ?_)
    refine lv_aload_n hx hb dX1_keep_45 rfl (lv_at hl 1 rfl) ?_
    refine va_get (D := (dC, dI)) (ci := 0) (v := .ref (a 11)) (C := RX1) (T := TX1) (N := 4) hx hb hts h_inX1 hown hK hP 9 rfl rfl 1 (by decide) k_2 (fun _ h9 => h9) rfl dX1_keep_46 ?_
    refine lv_iload_n hx hb dX1_keep_49 rfl (lv_at hl 0 rfl) ?_
    refine lv_iload_n hx hb dX1_keep_50 rfl (lv_at hl 3 rfl) ?_
    refine va_iast hx hb hK hP hD hS 11 0 rfl rfl (slot_in (smI_up (smI_se hE)) (smI_dn (by assumption))) dX1_keep_51 (fun H locs hP hD hS => ?_)
    have hP : va_P (dC, dI) vwCl (wX cI cJ cZ a kd lo hi vl nd so fr tg gn nr mo ma fa sv (upd sd ((((se + (1 : Int32)) - (se + (1 : Int32)) / (6 : Int32) * (6 : Int32)) + (sh - (1 : Int32))) - (((se + (1 : Int32)) - (se + (1 : Int32)) / (6 : Int32) * (6 : Int32)) + (sh - (1 : Int32))) / (6 : Int32) * (6 : Int32)).toNatClampNeg p1) ((se + (1 : Int32)) - (se + (1 : Int32)) / (6 : Int32) * (6 : Int32)) (sh - (1 : Int32))) H := hP
    have hD : va_D A (wX cI cJ cZ a kd lo hi vl nd so fr tg gn nr mo ma fa sv (upd sd ((((se + (1 : Int32)) - (se + (1 : Int32)) / (6 : Int32) * (6 : Int32)) + (sh - (1 : Int32))) - (((se + (1 : Int32)) - (se + (1 : Int32)) / (6 : Int32) * (6 : Int32)) + (sh - (1 : Int32))) / (6 : Int32) * (6 : Int32)).toNatClampNeg p1) ((se + (1 : Int32)) - (se + (1 : Int32)) / (6 : Int32) * (6 : Int32)) (sh - (1 : Int32))) := hD
    refine lv_aload_n hx hb dX1_keep_52 rfl (lv_at hl 2 rfl) ?_
    refine lv_iconst (v := 0) hx hb dX1_keep_53 (by decide) ?_
    refine lv_aload_n hx hb dX1_keep_54 rfl (lv_at hl 1 rfl) ?_
    refine va_get (D := (dC, dI)) (ci := 0) (v := .ref (a 10)) (C := RX1) (T := TX1) (N := 4) hx hb hts h_inX1 hown hK hP 9 rfl rfl 0 (by decide) k_3 (fun _ h9 => h9) rfl dX1_keep_55 ?_
    refine lv_iload_n hx hb dX1_keep_58 rfl (lv_at hl 0 rfl) ?_
    refine lv_bipush (v := 16) hx hb dX1_keep_59 (by decide) ?_
    refine lv_imul hx hb dX1_keep_61 ?_
    refine lv_iload_n hx hb dX1_keep_62 rfl (lv_at hl 3 rfl) ?_
    refine va_copyl hx hb (by rw [hml, hl.1]) hown k_4 k_5 k_6 k_7 hK hP hD hS 4 10 1 1 rfl rfl rfl rfl rfl (by decide) (cp_lo (slot_in (smI_up (smI_se hE)) (smI_dn (by assumption)))) (Int32.not_lt.mpr hp.1) (cp_src hp) (cp_hi (slot_in (smI_up (smI_se hE)) (smI_dn (by assumption))) hp) (fun _ _ => rfl) (Nat.le_of_ble_eq_true rfl) (Nat.le_of_ble_eq_true rfl) dX1_keep_63 (fun H locs hP hD hS => ?_)
    have hP : va_P (dC, dI) vwCl (wX cI cJ cZ a kd lo hi vl nd so fr tg gn nr mo ma fa (va_cpy vl sv (0 : Int32).toNatClampNeg (((((se + (1 : Int32)) - (se + (1 : Int32)) / (6 : Int32) * (6 : Int32)) + (sh - (1 : Int32))) - (((se + (1 : Int32)) - (se + (1 : Int32)) / (6 : Int32) * (6 : Int32)) + (sh - (1 : Int32))) / (6 : Int32) * (6 : Int32)) * (16 : Int32)).toNatClampNeg p1.toNatClampNeg) (upd sd ((((se + (1 : Int32)) - (se + (1 : Int32)) / (6 : Int32) * (6 : Int32)) + (sh - (1 : Int32))) - (((se + (1 : Int32)) - (se + (1 : Int32)) / (6 : Int32) * (6 : Int32)) + (sh - (1 : Int32))) / (6 : Int32) * (6 : Int32)).toNatClampNeg p1) ((se + (1 : Int32)) - (se + (1 : Int32)) / (6 : Int32) * (6 : Int32)) (sh - (1 : Int32))) H := hP
    have hD : va_D A (wX cI cJ cZ a kd lo hi vl nd so fr tg gn nr mo ma fa (va_cpy vl sv (0 : Int32).toNatClampNeg (((((se + (1 : Int32)) - (se + (1 : Int32)) / (6 : Int32) * (6 : Int32)) + (sh - (1 : Int32))) - (((se + (1 : Int32)) - (se + (1 : Int32)) / (6 : Int32) * (6 : Int32)) + (sh - (1 : Int32))) / (6 : Int32) * (6 : Int32)) * (16 : Int32)).toNatClampNeg p1.toNatClampNeg) (upd sd ((((se + (1 : Int32)) - (se + (1 : Int32)) / (6 : Int32) * (6 : Int32)) + (sh - (1 : Int32))) - (((se + (1 : Int32)) - (se + (1 : Int32)) / (6 : Int32) * (6 : Int32)) + (sh - (1 : Int32))) / (6 : Int32) * (6 : Int32)).toNatClampNeg p1) ((se + (1 : Int32)) - (se + (1 : Int32)) / (6 : Int32) * (6 : Int32)) (sh - (1 : Int32))) := hD
    refine lv_aload_n hx hb dX1_keep_66 rfl (lv_at hl 1 rfl) ?_
    refine lv_dup hx hb dX1_keep_67 rfl ?_
    refine va_get (D := (dC, dI)) (ci := 0) (v := .int (sh - (1 : Int32))) (C := RX1) (T := TX1) (N := 4) hx hb hts h_inX1 hown hK hP 9 rfl rfl 3 (by decide) k_0 (fun _ h9 => h9) rfl dX1_keep_68 ?_
    refine lv_iconst (v := 1) hx hb dX1_keep_71 (by decide) ?_
    refine lv_iadd hx hb dX1_keep_72 ?_
    refine va_put (D := (dC, dI)) (ci := 0) (v := .int ((sh - (1 : Int32)) + (1 : Int32))) (ty := .int) (C := RX1) (T := TX1) (N := 4) hx hb hts h_inX1 tyX1 tyX1_ok nmX1 hown hK hP hD hS 9 rfl rfl 3 (by decide) k_0 (fun _ h9 => h9) rfl (by decide +kernel) rfl rfl (Nat.le_of_ble_eq_true rfl) dX1_keep_73 (fun H locs hP hD hS => ?_)
    have hP : va_P (dC, dI) vwCl (wX cI cJ cZ a kd lo hi vl nd so fr tg gn nr mo ma fa (va_cpy vl sv (0 : Int32).toNatClampNeg (((((se + (1 : Int32)) - (se + (1 : Int32)) / (6 : Int32) * (6 : Int32)) + (sh - (1 : Int32))) - (((se + (1 : Int32)) - (se + (1 : Int32)) / (6 : Int32) * (6 : Int32)) + (sh - (1 : Int32))) / (6 : Int32) * (6 : Int32)) * (16 : Int32)).toNatClampNeg p1.toNatClampNeg) (upd sd ((((se + (1 : Int32)) - (se + (1 : Int32)) / (6 : Int32) * (6 : Int32)) + (sh - (1 : Int32))) - (((se + (1 : Int32)) - (se + (1 : Int32)) / (6 : Int32) * (6 : Int32)) + (sh - (1 : Int32))) / (6 : Int32) * (6 : Int32)).toNatClampNeg p1) ((se + (1 : Int32)) - (se + (1 : Int32)) / (6 : Int32) * (6 : Int32)) ((sh - (1 : Int32)) + (1 : Int32))) H := hP
    have hD : va_D A (wX cI cJ cZ a kd lo hi vl nd so fr tg gn nr mo ma fa (va_cpy vl sv (0 : Int32).toNatClampNeg (((((se + (1 : Int32)) - (se + (1 : Int32)) / (6 : Int32) * (6 : Int32)) + (sh - (1 : Int32))) - (((se + (1 : Int32)) - (se + (1 : Int32)) / (6 : Int32) * (6 : Int32)) + (sh - (1 : Int32))) / (6 : Int32) * (6 : Int32)) * (16 : Int32)).toNatClampNeg p1.toNatClampNeg) (upd sd ((((se + (1 : Int32)) - (se + (1 : Int32)) / (6 : Int32) * (6 : Int32)) + (sh - (1 : Int32))) - (((se + (1 : Int32)) - (se + (1 : Int32)) / (6 : Int32) * (6 : Int32)) + (sh - (1 : Int32))) / (6 : Int32) * (6 : Int32)).toNatClampNeg p1) ((se + (1 : Int32)) - (se + (1 : Int32)) / (6 : Int32) * (6 : Int32)) ((sh - (1 : Int32)) + (1 : Int32))) := hD
    exact W.vret hx hb hr (fun t ht hW => ⟨⟨(kd, lo, hi, vl, nd, so, fr, tg, gn, nr, mo, ma, fa, (va_cpy vl sv (0 : Int32).toNatClampNeg (((((se + (1 : Int32)) - (se + (1 : Int32)) / (6 : Int32) * (6 : Int32)) + (sh - (1 : Int32))) - (((se + (1 : Int32)) - (se + (1 : Int32)) / (6 : Int32) * (6 : Int32)) + (sh - (1 : Int32))) / (6 : Int32) * (6 : Int32)) * (16 : Int32)).toNatClampNeg p1.toNatClampNeg), (upd sd ((((se + (1 : Int32)) - (se + (1 : Int32)) / (6 : Int32) * (6 : Int32)) + (sh - (1 : Int32))) - (((se + (1 : Int32)) - (se + (1 : Int32)) / (6 : Int32) * (6 : Int32)) + (sh - (1 : Int32))) / (6 : Int32) * (6 : Int32)).toNatClampNeg p1), ((se + (1 : Int32)) - (se + (1 : Int32)) / (6 : Int32) * (6 : Int32)), ((sh - (1 : Int32)) + (1 : Int32))), rfl, (by unfold s_keep; rw [if_pos c_1]), by rw [ht]; exact hP, va_K.moved hW.alike hK, hD⟩, hS.F ht⟩) hS.2.2 dX1_keep_76
theorem s_keep_eq (kd : Nat → Int32) (lo : Nat → Int64) (hi : Nat → Int64) (vl : Nat → Int64) (nd : Int32) (so : Nat → Int32) (fr : Nat → Int32) (tg : Nat → Int32) (gn : Nat → Int32) (nr : Int32) (mo : Int32) (ma : Int32) (fa : Int32) (sv : Nat → Int64) (sd : Nat → Int32) (se : Int32) (sh : Int32) (p1 : Int32) : s_keep kd lo hi vl nd so fr tg gn nr mo ma fa sv sd se sh p1 = (kd, lo, hi, vl, nd, so, fr, tg, gn, nr, mo, ma, fa, (k_sv vl sv se sh p1), (k_sd sd se sh p1), (k_se se sh), (k_sh sh)) := by
  unfold s_keep k_sv k_sd k_sh k_slot k_se k_s0
  by_cases h : sh = 6
  · simp only [if_pos h]
  · simp only [if_neg h]
def x_move (kd : Nat → Int32) (lo : Nat → Int64) (hi : Nat → Int64) (vl : Nat → Int64) (nd : Int32) (so : Nat → Int32) (fr : Nat → Int32) (tg : Nat → Int32) (gn : Nat → Int32) (nr : Int32) (mo : Int32) (ma : Int32) (fa : Int32) (sv : Nat → Int64) (sd : Nat → Int32) (se : Int32) (sh : Int32) (p0 : Int32) (p1 : Int64) : XS :=
  if mo = 0 then (kd, lo, hi, (vp_updL vl p0.toNatClampNeg p1), nd, so, fr, tg, gn, nr, (mo + (1 : Int32)), (ma + (1 : Int32)), fa, (k_sv vl sv se sh nd), (k_sd sd se sh nd), (k_se se sh), (k_sh sh))
  else (kd, lo, hi, (vp_updL vl p0.toNatClampNeg p1), nd, so, fr, tg, gn, nr, (mo + (1 : Int32)), (ma + (1 : Int32)), fa, sv, sd, se, sh)
set_option maxHeartbeats 4000000 in
set_option maxRecDepth 100000 in
theorem c_X2_move (l : Launch) (dC : Nat → ClassId) (dI : Nat → Nat → Nat) (cI cJ cZ : ClassId) (a : Nat → Nat) (kd : Nat → Int32) (lo : Nat → Int64) (hi : Nat → Int64) (vl : Nat → Int64) (nd : Int32) (so : Nat → Int32) (fr : Nat → Int32) (tg : Nat → Int32) (gn : Nat → Int32) (nr : Int32) (mo : Int32) (ma : Int32) (fa : Int32) (sv : Nat → Int64) (sd : Nat → Int32) (se : Int32) (sh : Int32) (p0 : Int32) (p1 : Int64) (hE : okE se sh) (hn : 0 ≤ nd ∧ nd ≤ 16) (hd : vp_in p0 16) (sz : Nat) : Met l yX2_move wsX2_move ({ frames := 2, cells := 0, slots := 0, locals := 49 }) (va_Pc [.ref (a 0), .int p0, .long p1] (fun U => U.heap.size = sz ∧ va_P (dC, dI) vwCl (wX cI cJ cZ a kd lo hi vl nd so fr tg gn nr mo ma fa sv sd se sh) U.heap ∧ va_K (dC, dI) vwCl (tA cI cJ cZ) U ∧ va_D (fun _ => True) (wX cI cJ cZ a kd lo hi vl nd so fr tg gn nr mo ma fa sv sd se sh))) (va_Qv (fun (u : XS) => u = x_move kd lo hi vl nd so fr tg gn nr mo ma fa sv sd se sh p0 p1) (at_X dC dI cI cJ cZ (va_A (wX cI cJ cZ a kd lo hi vl nd so fr tg gn nr mo ma fa sv sd se sh) sz) a) (va_A (wX cI cJ cZ a kd lo hi vl nd so fr tg gn nr mo ma fa sv sd se sh) sz)) 0 0 (va_A (wX cI cJ cZ a kd lo hi vl nd so fr tg gn nr mo ma fa sv sd se sh) sz) := by
  refine Met.ofW (cc := cX2_move) (maxL := 4) (ret := none) (by decide) rfl ?_
  intro p e s m args below meth c s₁ B hml hv
  obtain ⟨rfl, hsz, hP, hK, hD0⟩ := hv
  subst hsz
  have hD := hD0.self (sz := s.heap.size)
  generalize hAe : va_A (wX cI cJ cZ a kd lo hi vl nd so fr tg gn nr mo ma fa sv sd se sh) s.heap.size = A at hD ⊢
  have hA : ∀ q : Nat, s.heap.size ≤ q → A q := fun q h => by rw [← hAe]; exact Or.inr h
  have hS : va_S A s.heap s.heap [] := va_S.rf
  have hP : va_P (dC, dI) vwCl (wX cI cJ cZ a kd lo hi vl nd so fr tg gn nr mo ma fa sv sd se sh) s.heap := hP
  have hx := B.exec
  have hb := B.bytes
  have hr := B.returns
  have hts := atoms_spec (ws := wsX2_move) B.pre
  have hown : s.vm.findClass RX2 = some m.cls := findClass_of_methodNamed B.named
  have hlocks := B.notSynchronized
  have h_inX2 : ∀ w ∈ wsX20, w ∈ wsX2_move := fun _ h => List.mem_cons_of_mem _ (List.mem_append_left _ (List.mem_append_right _ h))
  have k_0 := hts (.fieldLink RX2 123 "DetentCabinet" "movesOfCall" "I") (by decide +kernel)
  have k_1 := hts (.fieldLink RX2 20 "DetentCabinet" "values" "[J") (by decide +kernel)
  have k_2 := hts (.fieldLink RX2 107 "DetentCabinet" "movesInAll" "I") (by decide +kernel)
  have k_3 := hts (.fieldLink RX2 39 "DetentCabinet" "steps" "LDetentCabinet$Steps;") (by decide +kernel)
  have k_4 := hts (.fieldLink RX2 51 "DetentCabinet" "dialCount" "I") (by decide +kernel)
  have hl := lv_entry ([.ref (a 0), .int p0, .long p1]) (n := 4) (Nat.le_of_ble_eq_true rfl)
  rw [lg_entry_eq]
  generalize (lg_sl ([.ref (a 0), .int p0, .long p1]) ++ List.replicate (4 - (lg_sl ([.ref (a 0), .int p0, .long p1])).length) Slot.unset).toArray = ls at hl ⊢
  have hl : lv_has ls 4 [(0, .ref (a 0)), (1, .int p0), (2, .long p1)] := hl
  refine lv_aload_n hx hb dX2_move_0 rfl (lv_at hl 0 rfl) ?_
  refine va_get (D := (dC, dI)) (ci := 1) (v := .int mo) (C := RX2) (T := TX2) (N := 14) hx hb hts h_inX2 hown hK hP 0 rfl rfl 11 (by decide) k_0 (fun _ h9 => h9) rfl dX2_move_1 ?_
  refine lv_if_ne (tgt := 22) hx hb dX2_move_4 (by decide) (fun c_1 => ?_) (fun c_1 => ?_)
  · skip
    refine lv_aload_n hx hb dX2_move_22 rfl (lv_at hl 0 rfl) ?_
    refine va_get (D := (dC, dI)) (ci := 1) (v := .ref (a 4)) (C := RX2) (T := TX2) (N := 14) hx hb hts h_inX2 hown hK hP 0 rfl rfl 3 (by decide) k_1 (fun _ h9 => h9) rfl dX2_move_23 ?_
    refine lv_iload_n hx hb dX2_move_26 rfl (lv_at hl 1 rfl) ?_
    refine lv_lload_n hx hb dX2_move_27 rfl (lv_at hl 2 rfl) ?_
    refine va_last hx hb hK hP hD hS 4 1 rfl rfl (by assumption) dX2_move_28 (fun H locs hP hD hS => ?_)
    have hP : va_P (dC, dI) vwCl (wX cI cJ cZ a kd lo hi (vp_updL vl p0.toNatClampNeg p1) nd so fr tg gn nr mo ma fa sv sd se sh) H := hP
    have hD : va_D A (wX cI cJ cZ a kd lo hi (vp_updL vl p0.toNatClampNeg p1) nd so fr tg gn nr mo ma fa sv sd se sh) := hD
    refine lv_aload_n hx hb dX2_move_29 rfl (lv_at hl 0 rfl) ?_
    refine lv_dup hx hb dX2_move_30 rfl ?_
    refine va_get (D := (dC, dI)) (ci := 1) (v := .int mo) (C := RX2) (T := TX2) (N := 14) hx hb hts h_inX2 hown hK hP 0 rfl rfl 11 (by decide) k_0 (fun _ h9 => h9) rfl dX2_move_31 ?_
    refine lv_iconst (v := 1) hx hb dX2_move_34 (by decide) ?_
    refine lv_iadd hx hb dX2_move_35 ?_
    refine va_put (D := (dC, dI)) (ci := 1) (v := .int (mo + (1 : Int32))) (ty := .int) (C := RX2) (T := TX2) (N := 14) hx hb hts h_inX2 tyX2 tyX2_ok nmX2 hown hK hP hD hS 0 rfl rfl 11 (by decide) k_0 (fun _ h9 => h9) rfl (by decide +kernel) rfl rfl (Nat.le_of_ble_eq_true rfl) dX2_move_36 (fun H locs hP hD hS => ?_)
    have hP : va_P (dC, dI) vwCl (wX cI cJ cZ a kd lo hi (vp_updL vl p0.toNatClampNeg p1) nd so fr tg gn nr (mo + (1 : Int32)) ma fa sv sd se sh) H := hP
    have hD : va_D A (wX cI cJ cZ a kd lo hi (vp_updL vl p0.toNatClampNeg p1) nd so fr tg gn nr (mo + (1 : Int32)) ma fa sv sd se sh) := hD
    refine lv_aload_n hx hb dX2_move_39 rfl (lv_at hl 0 rfl) ?_
    refine lv_dup hx hb dX2_move_40 rfl ?_
    refine va_get (D := (dC, dI)) (ci := 1) (v := .int ma) (C := RX2) (T := TX2) (N := 14) hx hb hts h_inX2 hown hK hP 0 rfl rfl 12 (by decide) k_2 (fun _ h9 => h9) rfl dX2_move_41 ?_
    refine lv_iconst (v := 1) hx hb dX2_move_44 (by decide) ?_
    refine lv_iadd hx hb dX2_move_45 ?_
    refine va_put (D := (dC, dI)) (ci := 1) (v := .int (ma + (1 : Int32))) (ty := .int) (C := RX2) (T := TX2) (N := 14) hx hb hts h_inX2 tyX2 tyX2_ok nmX2 hown hK hP hD hS 0 rfl rfl 12 (by decide) k_2 (fun _ h9 => h9) rfl (by decide +kernel) rfl rfl (Nat.le_of_ble_eq_true rfl) dX2_move_46 (fun H locs hP hD hS => ?_)
    have hP : va_P (dC, dI) vwCl (wX cI cJ cZ a kd lo hi (vp_updL vl p0.toNatClampNeg p1) nd so fr tg gn nr (mo + (1 : Int32)) (ma + (1 : Int32)) fa sv sd se sh) H := hP
    have hD : va_D A (wX cI cJ cZ a kd lo hi (vp_updL vl p0.toNatClampNeg p1) nd so fr tg gn nr (mo + (1 : Int32)) (ma + (1 : Int32)) fa sv sd se sh) := hD
    exact W.vret hx hb hr (fun t ht hW => ⟨⟨(kd, lo, hi, (vp_updL vl p0.toNatClampNeg p1), nd, so, fr, tg, gn, nr, (mo + (1 : Int32)), (ma + (1 : Int32)), fa, sv, sd, se, sh), rfl, (by unfold x_move; rw [if_neg c_1]), by rw [ht]; exact hP, va_K.moved hW.alike hK, hD⟩, hS.F ht⟩) hS.2.2 dX2_move_49
  · skip
    refine lv_aload_n hx hb dX2_move_7 rfl (lv_at hl 0 rfl) ?_
    refine va_get (D := (dC, dI)) (ci := 1) (v := .ref (a 9)) (C := RX2) (T := TX2) (N := 14) hx hb hts h_inX2 hown hK hP 0 rfl rfl 10 (by decide) k_3 (fun _ h9 => h9) rfl dX2_move_8 ?_
    refine lv_aload_n hx hb dX2_move_11 rfl (lv_at hl 0 rfl) ?_
    refine va_get (D := (dC, dI)) (ci := 1) (v := .ref (a 4)) (C := RX2) (T := TX2) (N := 14) hx hb hts h_inX2 hown hK hP 0 rfl rfl 3 (by decide) k_1 (fun _ h9 => h9) rfl dX2_move_12 ?_
    refine lv_aload_n hx hb dX2_move_15 rfl (lv_at hl 0 rfl) ?_
    refine va_get (D := (dC, dI)) (ci := 1) (v := .int nd) (C := RX2) (T := TX2) (N := 14) hx hb hts h_inX2 hown hK hP 0 rfl rfl 4 (by decide) k_4 (fun _ h9 => h9) rfl dX2_move_16 ?_
    have hFc := va_free (wc := (wX cI cJ cZ a kd lo hi vl nd so fr tg gn nr mo ma fa sv sd se sh)) hD hS hA [0, 1, 2, 3, 4, 5, 6, 7, 8, 9, 10, 11] rfl
    refine va_callv (va_runV (As := [.ref (a 4), .int nd]) (rest := []) ⟨hx, hb, hml, hown, hts⟩ (c_X1_keep l dC dI cI cJ cZ a kd lo hi vl nd so fr tg gn nr mo ma fa sv sd se sh nd (by assumption) (by assumption) s.heap.size) (cwV 2 hts gX2_move_X1_keep rfl rfl rfl (by decide +kernel) ⟨Nat.le_of_ble_eq_true rfl, Nat.le_of_ble_eq_true rfl⟩) (fb_m hK hP hD (va_recv hK hP (ci := 0) (q0 := 9) rfl rfl)) rfl rfl hl.1 rfl (lv_room (Nat.le_of_ble_eq_true rfl)) dX2_move_19 ⟨Nat.zero_le _, Nat.zero_le _⟩) hS (fun q _ h => hFc q h) hFc (fun u t H1 locs ht hvm hw_2 hB hz1 hk1 hS => ?_)
    obtain ⟨kd_2, lo_2, hi_2, vl_2, nd_2, so_2, fr_2, tg_2, gn_2, nr_2, mo_2, ma_2, fa_2, sv_2, sd_2, se_2, sh_2⟩ := u
    rw [s_keep_eq] at hw_2
    have hw_2 := hw_2.symm
    simp only [Prod.mk.injEq] at hw_2
    obtain ⟨rfl, rfl, rfl, rfl, rfl, rfl, rfl, rfl, rfl, rfl, rfl, rfl, rfl, rfl, rfl, rfl, rfl⟩ := hw_2
    obtain ⟨hP1, hK1, hD1⟩ := hB
    rw [ht] at hP1
    obtain ⟨hP, hD⟩ := va_join (wr := []) (w1 := (wX cI cJ cZ a kd lo hi vl nd so fr tg gn nr mo ma fa (k_sv vl sv se sh nd) (k_sd sd se sh nd) (k_se se sh) (k_sh sh))) hP hD [0, 1, 2, 3, 4, 5, 6, 7, 8, 9, 10, 11] [] rfl rfl (by decide) (by decide) hk1 hFc hP1 hD1
    generalize H1 = H at hP hS ⊢
    have hP : va_P (dC, dI) vwCl (wX cI cJ cZ a kd lo hi vl nd so fr tg gn nr mo ma fa (k_sv vl sv se sh nd) (k_sd sd se sh nd) (k_se se sh) (k_sh sh)) H := hP
    have hD : va_D A (wX cI cJ cZ a kd lo hi vl nd so fr tg gn nr mo ma fa (k_sv vl sv se sh nd) (k_sd sd se sh nd) (k_se se sh) (k_sh sh)) := hD
    refine lv_aload_n hx hb dX2_move_22 rfl (lv_at hl 0 rfl) ?_
    refine va_get (D := (dC, dI)) (ci := 1) (v := .ref (a 4)) (C := RX2) (T := TX2) (N := 14) hx hb hts h_inX2 hown hK hP 0 rfl rfl 3 (by decide) k_1 (fun _ h9 => h9) rfl dX2_move_23 ?_
    refine lv_iload_n hx hb dX2_move_26 rfl (lv_at hl 1 rfl) ?_
    refine lv_lload_n hx hb dX2_move_27 rfl (lv_at hl 2 rfl) ?_
    refine va_last hx hb hK hP hD hS 4 1 rfl rfl (by assumption) dX2_move_28 (fun H locs hP hD hS => ?_)
    have hP : va_P (dC, dI) vwCl (wX cI cJ cZ a kd lo hi (vp_updL vl p0.toNatClampNeg p1) nd so fr tg gn nr mo ma fa (k_sv vl sv se sh nd) (k_sd sd se sh nd) (k_se se sh) (k_sh sh)) H := hP
    have hD : va_D A (wX cI cJ cZ a kd lo hi (vp_updL vl p0.toNatClampNeg p1) nd so fr tg gn nr mo ma fa (k_sv vl sv se sh nd) (k_sd sd se sh nd) (k_se se sh) (k_sh sh)) := hD
    refine lv_aload_n hx hb dX2_move_29 rfl (lv_at hl 0 rfl) ?_
    refine lv_dup hx hb dX2_move_30 rfl ?_
    refine va_get (D := (dC, dI)) (ci := 1) (v := .int mo) (C := RX2) (T := TX2) (N := 14) hx hb hts h_inX2 hown hK hP 0 rfl rfl 11 (by decide) k_0 (fun _ h9 => h9) rfl dX2_move_31 ?_
    refine lv_iconst (v := 1) hx hb dX2_move_34 (by decide) ?_
    refine lv_iadd hx hb dX2_move_35 ?_
    refine va_put (D := (dC, dI)) (ci := 1) (v := .int (mo + (1 : Int32))) (ty := .int) (C := RX2) (T := TX2) (N := 14) hx hb hts h_inX2 tyX2 tyX2_ok nmX2 hown hK hP hD hS 0 rfl rfl 11 (by decide) k_0 (fun _ h9 => h9) rfl (by decide +kernel) rfl rfl (Nat.le_of_ble_eq_true rfl) dX2_move_36 (fun H locs hP hD hS => ?_)
    have hP : va_P (dC, dI) vwCl (wX cI cJ cZ a kd lo hi (vp_updL vl p0.toNatClampNeg p1) nd so fr tg gn nr (mo + (1 : Int32)) ma fa (k_sv vl sv se sh nd) (k_sd sd se sh nd) (k_se se sh) (k_sh sh)) H := hP
    have hD : va_D A (wX cI cJ cZ a kd lo hi (vp_updL vl p0.toNatClampNeg p1) nd so fr tg gn nr (mo + (1 : Int32)) ma fa (k_sv vl sv se sh nd) (k_sd sd se sh nd) (k_se se sh) (k_sh sh)) := hD
    refine lv_aload_n hx hb dX2_move_39 rfl (lv_at hl 0 rfl) ?_
    refine lv_dup hx hb dX2_move_40 rfl ?_
    refine va_get (D := (dC, dI)) (ci := 1) (v := .int ma) (C := RX2) (T := TX2) (N := 14) hx hb hts h_inX2 hown hK hP 0 rfl rfl 12 (by decide) k_2 (fun _ h9 => h9) rfl dX2_move_41 ?_
    refine lv_iconst (v := 1) hx hb dX2_move_44 (by decide) ?_
    refine lv_iadd hx hb dX2_move_45 ?_
    refine va_put (D := (dC, dI)) (ci := 1) (v := .int (ma + (1 : Int32))) (ty := .int) (C := RX2) (T := TX2) (N := 14) hx hb hts h_inX2 tyX2 tyX2_ok nmX2 hown hK hP hD hS 0 rfl rfl 12 (by decide) k_2 (fun _ h9 => h9) rfl (by decide +kernel) rfl rfl (Nat.le_of_ble_eq_true rfl) dX2_move_46 (fun H locs hP hD hS => ?_)
    have hP : va_P (dC, dI) vwCl (wX cI cJ cZ a kd lo hi (vp_updL vl p0.toNatClampNeg p1) nd so fr tg gn nr (mo + (1 : Int32)) (ma + (1 : Int32)) fa (k_sv vl sv se sh nd) (k_sd sd se sh nd) (k_se se sh) (k_sh sh)) H := hP
    have hD : va_D A (wX cI cJ cZ a kd lo hi (vp_updL vl p0.toNatClampNeg p1) nd so fr tg gn nr (mo + (1 : Int32)) (ma + (1 : Int32)) fa (k_sv vl sv se sh nd) (k_sd sd se sh nd) (k_se se sh) (k_sh sh)) := hD
    exact W.vret hx hb hr (fun t ht hW => ⟨⟨(kd, lo, hi, (vp_updL vl p0.toNatClampNeg p1), nd, so, fr, tg, gn, nr, (mo + (1 : Int32)), (ma + (1 : Int32)), fa, (k_sv vl sv se sh nd), (k_sd sd se sh nd), (k_se se sh), (k_sh sh)), rfl, (by unfold x_move; rw [if_pos c_1]), by rw [ht]; exact hP, va_K.moved hW.alike hK, hD⟩, hS.F ht⟩) hS.2.2 dX2_move_49
theorem x_move_eq (kd : Nat → Int32) (lo : Nat → Int64) (hi : Nat → Int64) (vl : Nat → Int64) (nd : Int32) (so : Nat → Int32) (fr : Nat → Int32) (tg : Nat → Int32) (gn : Nat → Int32) (nr : Int32) (mo : Int32) (ma : Int32) (fa : Int32) (sv : Nat → Int64) (sd : Nat → Int32) (se : Int32) (sh : Int32) (p0 : Int32) (p1 : Int64) : x_move kd lo hi vl nd so fr tg gn nr mo ma fa sv sd se sh p0 p1 = (kd, lo, hi, (vp_updL vl p0.toNatClampNeg p1), nd, so, fr, tg, gn, nr, (mo + 1), (ma + 1), fa, (if mo = 0 then (k_sv vl sv se sh nd) else sv), (if mo = 0 then (k_sd sd se sh nd) else sd), (if mo = 0 then (k_se se sh) else se), (if mo = 0 then (k_sh sh) else sh)) := by
  unfold x_move
  by_cases h : mo = 0
  · simp only [if_pos h]
  · simp only [if_neg h]
end
section
abbrev VS : Type := (Nat → Int64) × (Nat → Int32) × Int32 × Int32 × (Nat → Int64) × (Nat → Int32) × Int32 × Int32
def v_move (nd : Int32) (u : VS) (d : Int32) (v : Int64) : VS := (vp_updL u.1 d.toNatClampNeg v, u.2.1, u.2.2.1 + 1, u.2.2.2.1 + 1, (if u.2.2.1 = 0 then k_sv u.1 u.2.2.2.2.1 u.2.2.2.2.2.2.1 u.2.2.2.2.2.2.2 nd else u.2.2.2.2.1), (if u.2.2.1 = 0 then k_sd u.2.2.2.2.2.1 u.2.2.2.2.2.2.1 u.2.2.2.2.2.2.2 nd else u.2.2.2.2.2.1), (if u.2.2.1 = 0 then k_se u.2.2.2.2.2.2.1 u.2.2.2.2.2.2.2 else u.2.2.2.2.2.2.1), (if u.2.2.1 = 0 then k_sh u.2.2.2.2.2.2.2 else u.2.2.2.2.2.2.2))
def x_step (kd so fr tg : Nat → Int32) (F : VS → Int32 → Int64 → VS) (d : Int32) (i : Nat) (u : VS) : VS :=
  if fr (nI i).toNatClampNeg = d then
    (if u.2.1 (nI i).toNatClampNeg = 0 then F (u.1, upd u.2.1 (nI i).toNatClampNeg 1, u.2.2) (tg (nI i).toNatClampNeg) (x_gift kd u.1 (so (nI i).toNatClampNeg) d (tg (nI i).toNatClampNeg)) else u)
  else u
def x_rods (S : Nat → VS → VS) : Nat → Nat → VS → VS
  | 0, _, u => u
  | n + 1, i, u => x_rods S n (i + 1) (S i u)
def x_fit (kd : Nat → Int32) (lo hi : Nat → Int64) (d : Int32) (v : Int64) : Int64 := n_fitted (kd d.toNatClampNeg) (lo d.toNatClampNeg) (hi d.toNatClampNeg) v
def x_gets (kd : Nat → Int32) (lo hi : Nat → Int64) (nd : Int32) (so fr tg : Nat → Int32) (N : Nat) : Nat → VS → Int32 → Int64 → VS
  | 0, u, d, v => if x_fit kd lo hi d v = u.1 d.toNatClampNeg then u else v_move nd u d (x_fit kd lo hi d v)
  | k + 1, u, d, v => if x_fit kd lo hi d v = u.1 d.toNatClampNeg then u else x_rods (x_step kd so fr tg (x_gets kd lo hi nd so fr tg N k) d) N 0 (v_move nd u d (x_fit kd lo hi d v))
def okV (u : VS) : Prop := okE u.2.2.2.2.2.2.1 u.2.2.2.2.2.2.2
theorem okE_k {se sh : Int32} (h : okE se sh) : okE (k_se se sh) (k_sh sh) := by
  obtain ⟨e, he, rfl⟩ := nI_of2 (M := 5) (n := 5) (by decide) (Int32.not_lt.mpr h.1) h.2.1
  obtain ⟨k, hk, rfl⟩ := nI_of2 (M := 6) (n := 6) (by decide) (Int32.not_lt.mpr h.2.2.1) h.2.2.2
  have e5 : (5 : Int32) = nI 5 := rfl
  have e6 : (6 : Int32) = nI 6 := rfl
  unfold k_se k_sh k_s0
  by_cases h6 : nI k = 6
  · rw [if_pos h6, if_pos h6, h6, nI_1, rem6 (by omega)]
    refine ⟨nI_pos' (by omega), ?_, by decide, by decide⟩
    rw [e5]
    exact nI_le (by omega) (by decide)
  · rw [if_neg h6, if_neg h6, nI_1]
    have hk6 : k ≠ 6 := fun q => h6 (by rw [q, e6])
    refine ⟨nI_pos' (by omega), ?_, nI_pos' (by omega), ?_⟩
    · rw [e5]; exact nI_le (by omega) (by decide)
    · rw [e6]; exact nI_le (by omega) (by decide)
theorem okE_i {c : Prop} [Decidable c] {se sh : Int32} (h : okE se sh) : okE (if c then k_se se sh else se) (if c then k_sh sh else sh) := by
  by_cases hc : c
  · rw [if_pos hc, if_pos hc]; exact okE_k h
  · rw [if_neg hc, if_neg hc]; exact h
theorem okV_move {nd : Int32} {u : VS} {d : Int32} {v : Int64} (h : okV u) : okV (v_move nd u d v) := okE_i h
theorem okV_rods {S : Nat → VS → VS} (hS : ∀ i u, okV u → okV (S i u)) : ∀ (n i : Nat) (u : VS), okV u → okV (x_rods S n i u)
  | 0, _, _, h => h
  | n + 1, i, u, h => okV_rods hS n (i + 1) (S i u) (hS i u h)
theorem okV_gets {kd : Nat → Int32} {lo hi : Nat → Int64} {nd : Int32} {so fr tg : Nat → Int32} {N : Nat} : ∀ (k : Nat) (u : VS) (d : Int32) (v : Int64), okV u → okV (x_gets kd lo hi nd so fr tg N k u d v)
  | 0, u, d, v, h => by
    unfold x_gets
    split
    · exact h
    · exact okV_move h
  | k + 1, u, d, v, h => by
    unfold x_gets
    split
    · exact h
    · refine okV_rods (fun i w hw => ?_) _ _ _ (okV_move h)
      unfold x_step
      split
      · split
        · exact okV_gets k _ _ _ hw
        · exact hw
      · exact hw
abbrev g_tup (kd : Nat → Int32) (lo : Nat → Int64) (hi : Nat → Int64) (nd : Int32) (so : Nat → Int32) (fr : Nat → Int32) (tg : Nat → Int32) (nr : Int32) (fa : Int32) (G : VS) : XS := (kd, lo, hi, G.1, nd, so, fr, tg, G.2.1, nr, G.2.2.1, G.2.2.2.1, fa, G.2.2.2.2.1, G.2.2.2.2.2.1, G.2.2.2.2.2.2.1, G.2.2.2.2.2.2.2)
def GetsMet (l : Launch) (dC : Nat → ClassId) (dI : Nat → Nat → Nat) (cI cJ cZ : ClassId) (a : Nat → Nat) (kd : Nat → Int32) (lo : Nat → Int64) (hi : Nat → Int64) (nd : Int32) (so : Nat → Int32) (fr : Nat → Int32) (tg : Nat → Int32) (nr : Int32) (fa : Int32) (k : Nat) : Prop := ∀ (vl : Nat → Int64) (gn : Nat → Int32) (mo : Int32) (ma : Int32) (sv : Nat → Int64) (sd : Nat → Int32) (se : Int32) (sh : Int32) (p0 : Int32) (p1 : Int64) (hE : okE se sh) (hd : vp_in p0 16) (sz : Nat), Met l yX2_gets wsX2_gets ({ frames := 5 + k, cells := 0, slots := 0, locals := 120 + 27 * k }) (va_Pc [.ref (a 0), .int p0, .long p1, .int (nI (24 - k))] (fun U => U.heap.size = sz ∧ va_P (dC, dI) vwCl (wX cI cJ cZ a kd lo hi vl nd so fr tg gn nr mo ma fa sv sd se sh) U.heap ∧ va_K (dC, dI) vwCl (tA cI cJ cZ) U ∧ va_D (fun _ => True) (wX cI cJ cZ a kd lo hi vl nd so fr tg gn nr mo ma fa sv sd se sh))) (va_Qv (fun (u : XS) => u = g_tup kd lo hi nd so fr tg nr fa (x_gets kd lo hi nd so fr tg nr.toNatClampNeg k (vl, gn, mo, ma, sv, sd, se, sh) p0 p1)) (at_X dC dI cI cJ cZ (va_A (wX cI cJ cZ a kd lo hi vl nd so fr tg gn nr mo ma fa sv sd se sh) sz) a) (va_A (wX cI cJ cZ a kd lo hi vl nd so fr tg gn nr mo ma fa sv sd se sh) sz)) 0 0 (va_A (wX cI cJ cZ a kd lo hi vl nd so fr tg gn nr mo ma fa sv sd se sh) sz)
set_option maxHeartbeats 4000000 in
set_option maxRecDepth 100000 in
theorem gets_loop {p : Program} {l : Launch} {e : Env} {R : Room} {s : State} {m : MethodId} {args : Array Value} {below : List Frame} {meth : Method} {c : Code} {Q : State → Prop} {A : Nat → Prop} {dC : Nat → ClassId} {dI : Nat → Nat → Nat} {cI cJ cZ : ClassId} {a : Nat → Nat} (kd : Nat → Int32) (lo : Nat → Int64) (hi : Nat → Int64) (nd : Int32) (so : Nat → Int32) (fr : Nat → Int32) (tg : Nat → Int32) (nr : Int32) (fa : Int32) (k N : Nat) (p0 p2 : Int32) (p1 f5 : Int64) (RES : VS) (C0 : CallFix p m c cX2_gets 8 s args wsX2_gets RX2) (hA : ∀ q : Nat, s.heap.size ≤ q → A q) (hK : va_K (dC, dI) vwCl (tA cI cJ cZ) s) (hd : vp_in p0 16) (htg : ∀ j, vp_in (tg j) 16) (hN : nr = nI N) (hN24 : N ≤ 24) (hp2 : p2 + 1 = nI (24 - k)) (IH : GetsMet l dC dI cI cJ cZ a kd lo hi nd so fr tg nr fa k) (hR : 5 + k + 1 ≤ R.frames ∧ 120 + 27 * k + 27 ≤ R.locals)
    (hend : ∀ (vl : Nat → Int64) (gn : Nat → Int32) (mo : Int32) (ma : Int32) (sv : Nat → Int64) (sd : Nat → Int32) (se : Int32) (sh : Int32) (H : Heap) (locs : List Loc) (ls : Array Slot), RES = (vl, gn, mo, ma, sv, sd, se, sh) → okE se sh → va_P (dC, dI) vwCl (wX cI cJ cZ a kd lo hi vl nd so fr tg gn nr mo ma fa sv sd se sh) H → va_D A (wX cI cJ cZ a kd lo hi vl nd so fr tg gn nr mo ma fa sv sd se sh) → va_S A s.heap H locs → ls.size = 8 → W p l e R s m args below meth c H locs 0 0 Q (F0 m 133 ls [])) :
    ∀ (n i : Nat) (x7 : Int32) (vl : Nat → Int64) (gn : Nat → Int32) (mo : Int32) (ma : Int32) (sv : Nat → Int64) (sd : Nat → Int32) (se : Int32) (sh : Int32) (H : Heap) (locs : List Loc) (ls : Array Slot), i + n = N → x7 = nI i → okE se sh → RES = x_rods (x_step kd so fr tg (x_gets kd lo hi nd so fr tg nr.toNatClampNeg k) p0) n i (vl, gn, mo, ma, sv, sd, se, sh) → va_P (dC, dI) vwCl (wX cI cJ cZ a kd lo hi vl nd so fr tg gn nr mo ma fa sv sd se sh) H → va_D A (wX cI cJ cZ a kd lo hi vl nd so fr tg gn nr mo ma fa sv sd se sh) → va_S A s.heap H locs → lv_has ls 8 [(7, .int x7), (5, .long f5), (0, .ref (a 0)), (1, .int p0), (2, .long p1), (4, .int p2)] → W p l e R s m args below meth c H locs 0 0 Q (F0 m 55 ls []) := by
  obtain ⟨hx, hb, hml, hown, hts⟩ := C0
  have h_inX2 : ∀ w ∈ wsX20, w ∈ wsX2_gets := fun _ h => List.mem_cons_of_mem _ (List.mem_append_left _ (List.mem_append_right _ h))
  have k_0 := hts (.fieldLink RX2 64 "DetentCabinet" "rodCount" "I") (by decide +kernel)
  have k_1 := hts (.fieldLink RX2 26 "DetentCabinet" "rodFroms" "[I") (by decide +kernel)
  have k_2 := hts (.fieldLink RX2 32 "DetentCabinet" "rodGone" "[Z") (by decide +kernel)
  have k_3 := hts (.fieldLink RX2 29 "DetentCabinet" "rodTos" "[I") (by decide +kernel)
  have k_4 := hts (.fieldLink RX2 23 "DetentCabinet" "rodSorts" "[I") (by decide +kernel)
  intro n
  induction n with
  | zero =>
    intro i x7 vl gn mo ma sv sd se sh H locs ls hin ex hE hres hP hD hS hl
    subst ex
    refine lv_iload hx hb dX2_gets_55 (lv_at hl 0 rfl) ?_
    refine lv_aload_n hx hb dX2_gets_57 rfl (lv_at hl 2 rfl) ?_
    refine va_get (D := (dC, dI)) (ci := 1) (v := .int nr) (C := RX2) (T := TX2) (N := 14) hx hb hts h_inX2 hown hK hP 0 rfl rfl 9 (by decide) k_0 (fun _ h9 => h9) rfl dX2_gets_58 ?_
    refine lv_icmp_ge (tgt := 133) hx hb dX2_gets_61 (by decide) (fun c_1 => ?_) (fun c_1 => ?_)
    · skip
      exact hend vl gn mo ma sv sd se sh H locs ls hres hE hP hD hS hl.1
    · skip
      exact absurd (by rw [hN]; exact nI_le (by omega) (by omega)) c_1
  | succ n ih =>
    intro i x7 vl gn mo ma sv sd se sh H locs ls hin ex hE hres hP hD hS hl
    subst ex
    refine lv_iload hx hb dX2_gets_55 (lv_at hl 0 rfl) ?_
    refine lv_aload_n hx hb dX2_gets_57 rfl (lv_at hl 2 rfl) ?_
    refine va_get (D := (dC, dI)) (ci := 1) (v := .int nr) (C := RX2) (T := TX2) (N := 14) hx hb hts h_inX2 hown hK hP 0 rfl rfl 9 (by decide) k_0 (fun _ h9 => h9) rfl dX2_gets_58 ?_
    refine lv_icmp_ge (tgt := 133) hx hb dX2_gets_61 (by decide) (fun c_1 => ?_) (fun c_1 => ?_)
    · skip
      exact absurd (by rw [hN] at c_1; exact c_1) (nI_ge (by omega) (by omega))
    · skip
      refine lv_aload_n hx hb dX2_gets_64 rfl (lv_at hl 2 rfl) ?_
      refine va_get (D := (dC, dI)) (ci := 1) (v := .ref (a 6)) (C := RX2) (T := TX2) (N := 14) hx hb hts h_inX2 hown hK hP 0 rfl rfl 6 (by decide) k_1 (fun _ h9 => h9) rfl dX2_gets_65 ?_
      refine lv_iload hx hb dX2_gets_68 (lv_at hl 0 rfl) ?_
      refine va_iald hx hb hK hP 6 0 rfl rfl (vp_in_nI (by omega) (by decide)) dX2_gets_70 ?_
      refine lv_iload_n hx hb dX2_gets_71 rfl (lv_at hl 3 rfl) ?_
      refine lv_icmp_ne (tgt := 127) hx hb dX2_gets_72 (by decide) (fun c_2 => ?_) (fun c_2 => ?_)
      · skip
        refine lv_iinc (v := ((nI i) + 1)) (lv' := [(7, .int ((nI i) + 1)), (5, .long f5), (0, .ref (a 0)), (1, .int p0), (2, .long p1), (4, .int p2)]) hx hb dX2_gets_127 hl (k := 0) rfl rfl (by decide) rfl (fun ls hl => ?_)
        refine lv_goto (tgt := 55) hx hb dX2_gets_130 (by decide) ?_
        exact ih (i + 1) _ vl gn mo ma sv sd se sh H locs ls (by omega) (nI_1 i) hE (hres.trans (congrArg (x_rods (x_step kd so fr tg (x_gets kd lo hi nd so fr tg nr.toNatClampNeg k) p0) n (i + 1)) (by unfold x_step; rw [if_neg c_2]))) hP hD hS (lv_sub hl [0, 1, 2, 3, 4, 5] rfl)
      · skip
        refine lv_aload_n hx hb dX2_gets_75 rfl (lv_at hl 2 rfl) ?_
        refine va_get (D := (dC, dI)) (ci := 1) (v := .ref (a 8)) (C := RX2) (T := TX2) (N := 14) hx hb hts h_inX2 hown hK hP 0 rfl rfl 8 (by decide) k_2 (fun _ h9 => h9) rfl dX2_gets_76 ?_
        refine lv_iload hx hb dX2_gets_79 (lv_at hl 0 rfl) ?_
        refine va_zald hx hb hK hP 8 2 rfl rfl (vp_in_nI (by omega) (by decide)) dX2_gets_81 ?_
        refine lv_if_ne (tgt := 127) hx hb dX2_gets_82 (by decide) (fun c_3 => ?_) (fun c_3 => ?_)
        · skip
          refine lv_iinc (v := ((nI i) + 1)) (lv' := [(7, .int ((nI i) + 1)), (5, .long f5), (0, .ref (a 0)), (1, .int p0), (2, .long p1), (4, .int p2)]) hx hb dX2_gets_127 hl (k := 0) rfl rfl (by decide) rfl (fun ls hl => ?_)
          refine lv_goto (tgt := 55) hx hb dX2_gets_130 (by decide) ?_
          exact ih (i + 1) _ vl gn mo ma sv sd se sh H locs ls (by omega) (nI_1 i) hE (hres.trans (congrArg (x_rods (x_step kd so fr tg (x_gets kd lo hi nd so fr tg nr.toNatClampNeg k) p0) n (i + 1)) (by unfold x_step; rw [if_pos c_2, if_neg c_3]))) hP hD hS (lv_sub hl [0, 1, 2, 3, 4, 5] rfl)
        · skip
          refine lv_aload_n hx hb dX2_gets_85 rfl (lv_at hl 2 rfl) ?_
          refine va_get (D := (dC, dI)) (ci := 1) (v := .ref (a 8)) (C := RX2) (T := TX2) (N := 14) hx hb hts h_inX2 hown hK hP 0 rfl rfl 8 (by decide) k_2 (fun _ h9 => h9) rfl dX2_gets_86 ?_
          refine lv_iload hx hb dX2_gets_89 (lv_at hl 0 rfl) ?_
          refine lv_iconst (v := 1) hx hb dX2_gets_91 (by decide) ?_
          refine va_zast hx hb hK hP hD hS 8 2 rfl rfl (vp_in_nI (by omega) (by decide)) dX2_gets_92 (fun H locs hP hD hS => ?_)
          rw [nar_1] at hP hD
          have hP : va_P (dC, dI) vwCl (wX cI cJ cZ a kd lo hi vl nd so fr tg (upd gn (nI i).toNatClampNeg (1 : Int32)) nr mo ma fa sv sd se sh) H := hP
          have hD : va_D A (wX cI cJ cZ a kd lo hi vl nd so fr tg (upd gn (nI i).toNatClampNeg (1 : Int32)) nr mo ma fa sv sd se sh) := hD
          refine lv_aload_n hx hb dX2_gets_93 rfl (lv_at hl 2 rfl) ?_
          refine lv_aload_n hx hb dX2_gets_94 rfl (lv_at hl 2 rfl) ?_
          refine va_get (D := (dC, dI)) (ci := 1) (v := .ref (a 7)) (C := RX2) (T := TX2) (N := 14) hx hb hts h_inX2 hown hK hP 0 rfl rfl 7 (by decide) k_3 (fun _ h9 => h9) rfl dX2_gets_95 ?_
          refine lv_iload hx hb dX2_gets_98 (lv_at hl 0 rfl) ?_
          refine va_iald hx hb hK hP 7 0 rfl rfl (vp_in_nI (by omega) (by decide)) dX2_gets_100 ?_
          refine lv_aload_n hx hb dX2_gets_101 rfl (lv_at hl 2 rfl) ?_
          refine lv_aload_n hx hb dX2_gets_102 rfl (lv_at hl 2 rfl) ?_
          refine va_get (D := (dC, dI)) (ci := 1) (v := .ref (a 5)) (C := RX2) (T := TX2) (N := 14) hx hb hts h_inX2 hown hK hP 0 rfl rfl 5 (by decide) k_4 (fun _ h9 => h9) rfl dX2_gets_103 ?_
          refine lv_iload hx hb dX2_gets_106 (lv_at hl 0 rfl) ?_
          refine va_iald hx hb hK hP 5 0 rfl rfl (vp_in_nI (by omega) (by decide)) dX2_gets_108 ?_
          refine lv_iload_n hx hb dX2_gets_109 rfl (lv_at hl 3 rfl) ?_
          refine lv_aload_n hx hb dX2_gets_110 rfl (lv_at hl 2 rfl) ?_
          refine va_get (D := (dC, dI)) (ci := 1) (v := .ref (a 7)) (C := RX2) (T := TX2) (N := 14) hx hb hts h_inX2 hown hK hP 0 rfl rfl 7 (by decide) k_3 (fun _ h9 => h9) rfl dX2_gets_111 ?_
          refine lv_iload hx hb dX2_gets_114 (lv_at hl 0 rfl) ?_
          refine va_iald hx hb hK hP 7 0 rfl rfl (vp_in_nI (by omega) (by decide)) dX2_gets_116 ?_
          refine cs_l (W.runV (As := [.int (so (nI i).toNatClampNeg), .int p0, .int (tg (nI i).toNatClampNeg)]) (rest := [.int (tg (nI i).toNatClampNeg), .ref (a 0)]) ⟨hx, hb, hml, hown, hts⟩ (c_X2_gift l dC dI cI cJ cZ a kd lo hi vl nd so fr tg (upd gn (nI i).toNatClampNeg (1 : Int32)) nr mo ma fa sv sd se sh (so (nI i).toNatClampNeg) p0 (tg (nI i).toNatClampNeg) hd (htg _)) (cwV 3 hts gX2_gets_X2_gift rfl rfl rfl (by decide +kernel) ⟨by show 4 + 1 ≤ _; have := hR.1; omega, by show 8 + (5 + 11) + 94 ≤ _; have := hR.2; omega⟩) (fb_v hK hP (va_recv hK hP (ci := 1) (q0 := 0) rfl rfl)) rfl rfl hl.1 rfl (lv_room (Nat.le_of_ble_eq_true rfl)) dX2_gets_117 ⟨Nat.zero_le _, Nat.zero_le _⟩) ?_
          refine lv_iload hx hb dX2_gets_120 (lv_at hl 5 rfl) ?_
          refine lv_iconst (v := 1) hx hb dX2_gets_122 (by decide) ?_
          refine lv_iadd hx hb dX2_gets_123 ?_
          have hFc := va_free (wc := (wX cI cJ cZ a kd lo hi vl nd so fr tg (upd gn (nI i).toNatClampNeg (1 : Int32)) nr mo ma fa sv sd se sh)) hD hS hA [0, 1, 2, 3, 4, 5, 6, 7, 8, 9, 10, 11] rfl
          rw [hp2]
          refine va_callv (va_runV (As := [.int (tg (nI i).toNatClampNeg), .long (x_gift kd vl (so (nI i).toNatClampNeg) p0 (tg (nI i).toNatClampNeg)), .int (nI (24 - k))]) (rest := []) ⟨hx, hb, hml, hown, hts⟩ (IH vl (upd gn (nI i).toNatClampNeg (1 : Int32)) mo ma sv sd se sh (tg (nI i).toNatClampNeg) (x_gift kd vl (so (nI i).toNatClampNeg) p0 (tg (nI i).toNatClampNeg)) hE (htg _) H.size) (cwV 3 hts gX2_gets_X2_gets rfl rfl rfl (by decide +kernel) ⟨by show 5 + k + 1 ≤ _; have := hR.1; omega, by show 8 + (8 + 11) + (120 + 27 * k) ≤ _; have := hR.2; omega⟩) (fb_m hK hP hD (va_recv hK hP (ci := 1) (q0 := 0) rfl rfl)) rfl rfl hl.1 rfl (lv_room (Nat.le_of_ble_eq_true rfl)) dX2_gets_124 ⟨Nat.zero_le _, Nat.zero_le _⟩) hS (fun q _ h => hFc q h) hFc (fun u t H1 locs ht hvm hw_4 hB hz1 hk1 hS => ?_)
          obtain ⟨kd_4, lo_4, hi_4, vl_4, nd_4, so_4, fr_4, tg_4, gn_4, nr_4, mo_4, ma_4, fa_4, sv_4, sd_4, se_4, sh_4⟩ := u
          have hw_4 := hw_4.symm
          simp only [Prod.mk.injEq] at hw_4
          obtain ⟨rfl, rfl, rfl, rfl, rfl, rfl, rfl, rfl, rfl, rfl, rfl, rfl, rfl, rfl, rfl, rfl, rfl⟩ := hw_4
          obtain ⟨hP1, hK1, hD1⟩ := hB
          rw [ht] at hP1
          obtain ⟨hP, hD⟩ := va_join (wr := []) (w1 := (wX cI cJ cZ a kd lo hi ((x_gets kd lo hi nd so fr tg nr.toNatClampNeg k (vl, (upd gn (nI i).toNatClampNeg (1 : Int32)), mo, ma, sv, sd, se, sh) (tg (nI i).toNatClampNeg) (x_gift kd vl (so (nI i).toNatClampNeg) p0 (tg (nI i).toNatClampNeg))).1) nd so fr tg ((x_gets kd lo hi nd so fr tg nr.toNatClampNeg k (vl, (upd gn (nI i).toNatClampNeg (1 : Int32)), mo, ma, sv, sd, se, sh) (tg (nI i).toNatClampNeg) (x_gift kd vl (so (nI i).toNatClampNeg) p0 (tg (nI i).toNatClampNeg))).2.1) nr ((x_gets kd lo hi nd so fr tg nr.toNatClampNeg k (vl, (upd gn (nI i).toNatClampNeg (1 : Int32)), mo, ma, sv, sd, se, sh) (tg (nI i).toNatClampNeg) (x_gift kd vl (so (nI i).toNatClampNeg) p0 (tg (nI i).toNatClampNeg))).2.2.1) ((x_gets kd lo hi nd so fr tg nr.toNatClampNeg k (vl, (upd gn (nI i).toNatClampNeg (1 : Int32)), mo, ma, sv, sd, se, sh) (tg (nI i).toNatClampNeg) (x_gift kd vl (so (nI i).toNatClampNeg) p0 (tg (nI i).toNatClampNeg))).2.2.2.1) fa ((x_gets kd lo hi nd so fr tg nr.toNatClampNeg k (vl, (upd gn (nI i).toNatClampNeg (1 : Int32)), mo, ma, sv, sd, se, sh) (tg (nI i).toNatClampNeg) (x_gift kd vl (so (nI i).toNatClampNeg) p0 (tg (nI i).toNatClampNeg))).2.2.2.2.1) ((x_gets kd lo hi nd so fr tg nr.toNatClampNeg k (vl, (upd gn (nI i).toNatClampNeg (1 : Int32)), mo, ma, sv, sd, se, sh) (tg (nI i).toNatClampNeg) (x_gift kd vl (so (nI i).toNatClampNeg) p0 (tg (nI i).toNatClampNeg))).2.2.2.2.2.1) ((x_gets kd lo hi nd so fr tg nr.toNatClampNeg k (vl, (upd gn (nI i).toNatClampNeg (1 : Int32)), mo, ma, sv, sd, se, sh) (tg (nI i).toNatClampNeg) (x_gift kd vl (so (nI i).toNatClampNeg) p0 (tg (nI i).toNatClampNeg))).2.2.2.2.2.2.1) ((x_gets kd lo hi nd so fr tg nr.toNatClampNeg k (vl, (upd gn (nI i).toNatClampNeg (1 : Int32)), mo, ma, sv, sd, se, sh) (tg (nI i).toNatClampNeg) (x_gift kd vl (so (nI i).toNatClampNeg) p0 (tg (nI i).toNatClampNeg))).2.2.2.2.2.2.2))) hP hD [0, 1, 2, 3, 4, 5, 6, 7, 8, 9, 10, 11] [] rfl rfl (by decide) (by decide) hk1 hFc hP1 hD1
          generalize H1 = H at hP hS ⊢
          have hP : va_P (dC, dI) vwCl (wX cI cJ cZ a kd lo hi ((x_gets kd lo hi nd so fr tg nr.toNatClampNeg k (vl, (upd gn (nI i).toNatClampNeg (1 : Int32)), mo, ma, sv, sd, se, sh) (tg (nI i).toNatClampNeg) (x_gift kd vl (so (nI i).toNatClampNeg) p0 (tg (nI i).toNatClampNeg))).1) nd so fr tg ((x_gets kd lo hi nd so fr tg nr.toNatClampNeg k (vl, (upd gn (nI i).toNatClampNeg (1 : Int32)), mo, ma, sv, sd, se, sh) (tg (nI i).toNatClampNeg) (x_gift kd vl (so (nI i).toNatClampNeg) p0 (tg (nI i).toNatClampNeg))).2.1) nr ((x_gets kd lo hi nd so fr tg nr.toNatClampNeg k (vl, (upd gn (nI i).toNatClampNeg (1 : Int32)), mo, ma, sv, sd, se, sh) (tg (nI i).toNatClampNeg) (x_gift kd vl (so (nI i).toNatClampNeg) p0 (tg (nI i).toNatClampNeg))).2.2.1) ((x_gets kd lo hi nd so fr tg nr.toNatClampNeg k (vl, (upd gn (nI i).toNatClampNeg (1 : Int32)), mo, ma, sv, sd, se, sh) (tg (nI i).toNatClampNeg) (x_gift kd vl (so (nI i).toNatClampNeg) p0 (tg (nI i).toNatClampNeg))).2.2.2.1) fa ((x_gets kd lo hi nd so fr tg nr.toNatClampNeg k (vl, (upd gn (nI i).toNatClampNeg (1 : Int32)), mo, ma, sv, sd, se, sh) (tg (nI i).toNatClampNeg) (x_gift kd vl (so (nI i).toNatClampNeg) p0 (tg (nI i).toNatClampNeg))).2.2.2.2.1) ((x_gets kd lo hi nd so fr tg nr.toNatClampNeg k (vl, (upd gn (nI i).toNatClampNeg (1 : Int32)), mo, ma, sv, sd, se, sh) (tg (nI i).toNatClampNeg) (x_gift kd vl (so (nI i).toNatClampNeg) p0 (tg (nI i).toNatClampNeg))).2.2.2.2.2.1) ((x_gets kd lo hi nd so fr tg nr.toNatClampNeg k (vl, (upd gn (nI i).toNatClampNeg (1 : Int32)), mo, ma, sv, sd, se, sh) (tg (nI i).toNatClampNeg) (x_gift kd vl (so (nI i).toNatClampNeg) p0 (tg (nI i).toNatClampNeg))).2.2.2.2.2.2.1) ((x_gets kd lo hi nd so fr tg nr.toNatClampNeg k (vl, (upd gn (nI i).toNatClampNeg (1 : Int32)), mo, ma, sv, sd, se, sh) (tg (nI i).toNatClampNeg) (x_gift kd vl (so (nI i).toNatClampNeg) p0 (tg (nI i).toNatClampNeg))).2.2.2.2.2.2.2)) H := hP
          have hD : va_D A (wX cI cJ cZ a kd lo hi ((x_gets kd lo hi nd so fr tg nr.toNatClampNeg k (vl, (upd gn (nI i).toNatClampNeg (1 : Int32)), mo, ma, sv, sd, se, sh) (tg (nI i).toNatClampNeg) (x_gift kd vl (so (nI i).toNatClampNeg) p0 (tg (nI i).toNatClampNeg))).1) nd so fr tg ((x_gets kd lo hi nd so fr tg nr.toNatClampNeg k (vl, (upd gn (nI i).toNatClampNeg (1 : Int32)), mo, ma, sv, sd, se, sh) (tg (nI i).toNatClampNeg) (x_gift kd vl (so (nI i).toNatClampNeg) p0 (tg (nI i).toNatClampNeg))).2.1) nr ((x_gets kd lo hi nd so fr tg nr.toNatClampNeg k (vl, (upd gn (nI i).toNatClampNeg (1 : Int32)), mo, ma, sv, sd, se, sh) (tg (nI i).toNatClampNeg) (x_gift kd vl (so (nI i).toNatClampNeg) p0 (tg (nI i).toNatClampNeg))).2.2.1) ((x_gets kd lo hi nd so fr tg nr.toNatClampNeg k (vl, (upd gn (nI i).toNatClampNeg (1 : Int32)), mo, ma, sv, sd, se, sh) (tg (nI i).toNatClampNeg) (x_gift kd vl (so (nI i).toNatClampNeg) p0 (tg (nI i).toNatClampNeg))).2.2.2.1) fa ((x_gets kd lo hi nd so fr tg nr.toNatClampNeg k (vl, (upd gn (nI i).toNatClampNeg (1 : Int32)), mo, ma, sv, sd, se, sh) (tg (nI i).toNatClampNeg) (x_gift kd vl (so (nI i).toNatClampNeg) p0 (tg (nI i).toNatClampNeg))).2.2.2.2.1) ((x_gets kd lo hi nd so fr tg nr.toNatClampNeg k (vl, (upd gn (nI i).toNatClampNeg (1 : Int32)), mo, ma, sv, sd, se, sh) (tg (nI i).toNatClampNeg) (x_gift kd vl (so (nI i).toNatClampNeg) p0 (tg (nI i).toNatClampNeg))).2.2.2.2.2.1) ((x_gets kd lo hi nd so fr tg nr.toNatClampNeg k (vl, (upd gn (nI i).toNatClampNeg (1 : Int32)), mo, ma, sv, sd, se, sh) (tg (nI i).toNatClampNeg) (x_gift kd vl (so (nI i).toNatClampNeg) p0 (tg (nI i).toNatClampNeg))).2.2.2.2.2.2.1) ((x_gets kd lo hi nd so fr tg nr.toNatClampNeg k (vl, (upd gn (nI i).toNatClampNeg (1 : Int32)), mo, ma, sv, sd, se, sh) (tg (nI i).toNatClampNeg) (x_gift kd vl (so (nI i).toNatClampNeg) p0 (tg (nI i).toNatClampNeg))).2.2.2.2.2.2.2)) := hD
          refine lv_iinc (v := ((nI i) + 1)) (lv' := [(7, .int ((nI i) + 1)), (5, .long f5), (0, .ref (a 0)), (1, .int p0), (2, .long p1), (4, .int p2)]) hx hb dX2_gets_127 hl (k := 0) rfl rfl (by decide) rfl (fun ls hl => ?_)
          refine lv_goto (tgt := 55) hx hb dX2_gets_130 (by decide) ?_
          exact ih (i + 1) _ ((x_gets kd lo hi nd so fr tg nr.toNatClampNeg k (vl, (upd gn (nI i).toNatClampNeg (1 : Int32)), mo, ma, sv, sd, se, sh) (tg (nI i).toNatClampNeg) (x_gift kd vl (so (nI i).toNatClampNeg) p0 (tg (nI i).toNatClampNeg))).1) ((x_gets kd lo hi nd so fr tg nr.toNatClampNeg k (vl, (upd gn (nI i).toNatClampNeg (1 : Int32)), mo, ma, sv, sd, se, sh) (tg (nI i).toNatClampNeg) (x_gift kd vl (so (nI i).toNatClampNeg) p0 (tg (nI i).toNatClampNeg))).2.1) ((x_gets kd lo hi nd so fr tg nr.toNatClampNeg k (vl, (upd gn (nI i).toNatClampNeg (1 : Int32)), mo, ma, sv, sd, se, sh) (tg (nI i).toNatClampNeg) (x_gift kd vl (so (nI i).toNatClampNeg) p0 (tg (nI i).toNatClampNeg))).2.2.1) ((x_gets kd lo hi nd so fr tg nr.toNatClampNeg k (vl, (upd gn (nI i).toNatClampNeg (1 : Int32)), mo, ma, sv, sd, se, sh) (tg (nI i).toNatClampNeg) (x_gift kd vl (so (nI i).toNatClampNeg) p0 (tg (nI i).toNatClampNeg))).2.2.2.1) ((x_gets kd lo hi nd so fr tg nr.toNatClampNeg k (vl, (upd gn (nI i).toNatClampNeg (1 : Int32)), mo, ma, sv, sd, se, sh) (tg (nI i).toNatClampNeg) (x_gift kd vl (so (nI i).toNatClampNeg) p0 (tg (nI i).toNatClampNeg))).2.2.2.2.1) ((x_gets kd lo hi nd so fr tg nr.toNatClampNeg k (vl, (upd gn (nI i).toNatClampNeg (1 : Int32)), mo, ma, sv, sd, se, sh) (tg (nI i).toNatClampNeg) (x_gift kd vl (so (nI i).toNatClampNeg) p0 (tg (nI i).toNatClampNeg))).2.2.2.2.2.1) ((x_gets kd lo hi nd so fr tg nr.toNatClampNeg k (vl, (upd gn (nI i).toNatClampNeg (1 : Int32)), mo, ma, sv, sd, se, sh) (tg (nI i).toNatClampNeg) (x_gift kd vl (so (nI i).toNatClampNeg) p0 (tg (nI i).toNatClampNeg))).2.2.2.2.2.2.1) ((x_gets kd lo hi nd so fr tg nr.toNatClampNeg k (vl, (upd gn (nI i).toNatClampNeg (1 : Int32)), mo, ma, sv, sd, se, sh) (tg (nI i).toNatClampNeg) (x_gift kd vl (so (nI i).toNatClampNeg) p0 (tg (nI i).toNatClampNeg))).2.2.2.2.2.2.2) H locs ls (by omega) (nI_1 i) (okV_gets k (vl, upd gn (nI i).toNatClampNeg 1, mo, ma, sv, sd, se, sh) _ _ hE) (hres.trans (congrArg (x_rods (x_step kd so fr tg (x_gets kd lo hi nd so fr tg nr.toNatClampNeg k) p0) n (i + 1)) (by unfold x_step; rw [if_pos c_2, if_pos c_3]))) hP hD hS (lv_sub hl [0, 1, 2, 3, 4, 5] rfl)
end
section
theorem nr_nat {nr : Int32} (h : 0 ≤ nr ∧ nr ≤ 24) : nr = nI nr.toNatClampNeg ∧ nr.toNatClampNeg ≤ 24 := by
  obtain ⟨N, hN, rfl⟩ := nI_of2 (M := 24) (n := 24) (by decide) (Int32.not_lt.mpr h.1) h.2
  rw [nI_clamp (by omega)]
  exact ⟨rfl, hN⟩
section GE
variable {kd : Nat → Int32} {lo hi : Nat → Int64} {nd : Int32} {so fr tg : Nat → Int32} {N k : Nat} {u : VS} {d : Int32} {v : Int64}
theorem x_gets_same (h : x_fit kd lo hi d v = u.1 d.toNatClampNeg) : x_gets kd lo hi nd so fr tg N k u d v = u := by
  cases k <;> (unfold x_gets; rw [if_pos h])
theorem x_gets_zero (h : ¬ x_fit kd lo hi d v = u.1 d.toNatClampNeg) : x_gets kd lo hi nd so fr tg N 0 u d v = v_move nd u d (x_fit kd lo hi d v) := by
  unfold x_gets; rw [if_neg h]
theorem x_gets_succ (h : ¬ x_fit kd lo hi d v = u.1 d.toNatClampNeg) : x_gets kd lo hi nd so fr tg N (k + 1) u d v = x_rods (x_step kd so fr tg (x_gets kd lo hi nd so fr tg N k) d) N 0 (v_move nd u d (x_fit kd lo hi d v)) := by
  conv => lhs; unfold x_gets
  rw [if_neg h]
end GE
set_option maxHeartbeats 4000000 in
set_option maxRecDepth 100000 in
theorem gets_all (l : Launch) (dC : Nat → ClassId) (dI : Nat → Nat → Nat) (cI cJ cZ : ClassId) (a : Nat → Nat) (kd : Nat → Int32) (lo : Nat → Int64) (hi : Nat → Int64) (nd : Int32) (so : Nat → Int32) (fr : Nat → Int32) (tg : Nat → Int32) (nr : Int32) (fa : Int32) (hn : 0 ≤ nd ∧ nd ≤ 16) (hnr : 0 ≤ nr ∧ nr ≤ 24) (htg : ∀ j, vp_in (tg j) 16) : ∀ k, k ≤ 24 → GetsMet l dC dI cI cJ cZ a kd lo hi nd so fr tg nr fa k := by
  intro k
  induction k with
  | zero =>
    intro hk vl gn mo ma sv sd se sh p0 p1 hE hd sz
    refine Met.ofW (cc := cX2_gets) (maxL := 8) (ret := none) (by decide) rfl ?_
    intro p e s m args below meth c s₁ B hml hv
    obtain ⟨rfl, hsz, hP, hK, hD0⟩ := hv
    subst hsz
    have hD := hD0.self (sz := s.heap.size)
    generalize hAe : va_A (wX cI cJ cZ a kd lo hi vl nd so fr tg gn nr mo ma fa sv sd se sh) s.heap.size = A at hD ⊢
    have hA : ∀ q : Nat, s.heap.size ≤ q → A q := fun q h => by rw [← hAe]; exact Or.inr h
    have hS : va_S A s.heap s.heap [] := va_S.rf
    have hP : va_P (dC, dI) vwCl (wX cI cJ cZ a kd lo hi vl nd so fr tg gn nr mo ma fa sv sd se sh) s.heap := hP
    have hx := B.exec
    have hb := B.bytes
    have hr := B.returns
    have hts := atoms_spec (ws := wsX2_gets) B.pre
    have hown : s.vm.findClass RX2 = some m.cls := findClass_of_methodNamed B.named
    have hlocks := B.notSynchronized
    have h_inX2 : ∀ w ∈ wsX20, w ∈ wsX2_gets := fun _ h => List.mem_cons_of_mem _ (List.mem_append_left _ (List.mem_append_right _ h))
    have k_0 := hts (.fieldLink RX2 9 "DetentCabinet" "kinds" "[I") (by decide +kernel)
    have k_1 := hts (.fieldLink RX2 13 "DetentCabinet" "lows" "[J") (by decide +kernel)
    have k_2 := hts (.fieldLink RX2 17 "DetentCabinet" "highs" "[J") (by decide +kernel)
    have k_3 := hts (.fieldLink RX2 20 "DetentCabinet" "values" "[J") (by decide +kernel)
    have hl := lv_entry ([.ref (a 0), .int p0, .long p1, .int (nI (24 - 0))]) (n := 8) (Nat.le_of_ble_eq_true rfl)
    rw [lg_entry_eq]
    generalize (lg_sl ([.ref (a 0), .int p0, .long p1, .int (nI (24 - 0))]) ++ List.replicate (8 - (lg_sl ([.ref (a 0), .int p0, .long p1, .int (nI (24 - 0))])).length) Slot.unset).toArray = ls at hl ⊢
    have hl : lv_has ls 8 [(0, .ref (a 0)), (1, .int p0), (2, .long p1), (4, .int (nI (24 - 0)))] := hl
    refine lv_aload_n hx hb dX2_gets_0 rfl (lv_at hl 0 rfl) ?_
    refine va_get (D := (dC, dI)) (ci := 1) (v := .ref (a 1)) (C := RX2) (T := TX2) (N := 14) hx hb hts h_inX2 hown hK hP 0 rfl rfl 0 (by decide) k_0 (fun _ h9 => h9) rfl dX2_gets_1 ?_
    refine lv_iload_n hx hb dX2_gets_4 rfl (lv_at hl 1 rfl) ?_
    refine va_iald hx hb hK hP 1 0 rfl rfl (by assumption) dX2_gets_5 ?_
    refine lv_aload_n hx hb dX2_gets_6 rfl (lv_at hl 0 rfl) ?_
    refine va_get (D := (dC, dI)) (ci := 1) (v := .ref (a 2)) (C := RX2) (T := TX2) (N := 14) hx hb hts h_inX2 hown hK hP 0 rfl rfl 1 (by decide) k_1 (fun _ h9 => h9) rfl dX2_gets_7 ?_
    refine lv_iload_n hx hb dX2_gets_10 rfl (lv_at hl 1 rfl) ?_
    refine va_lald hx hb hK hP 2 1 rfl rfl (by assumption) dX2_gets_11 ?_
    refine lv_aload_n hx hb dX2_gets_12 rfl (lv_at hl 0 rfl) ?_
    refine va_get (D := (dC, dI)) (ci := 1) (v := .ref (a 3)) (C := RX2) (T := TX2) (N := 14) hx hb hts h_inX2 hown hK hP 0 rfl rfl 2 (by decide) k_2 (fun _ h9 => h9) rfl dX2_gets_13 ?_
    refine lv_iload_n hx hb dX2_gets_16 rfl (lv_at hl 1 rfl) ?_
    refine va_lald hx hb hK hP 3 1 rfl rfl (by assumption) dX2_gets_17 ?_
    refine lv_lload_n hx hb dX2_gets_18 rfl (lv_at hl 2 rfl) ?_
    refine cs_l (W.runS (As := [.int (kd p0.toNatClampNeg), .long (lo p0.toNatClampNeg), .long (hi p0.toNatClampNeg), .long p1]) (rest := []) ⟨hx, hb, hml, hown, hts⟩ (c_X0_fitted l (kd p0.toNatClampNeg) (lo p0.toNatClampNeg) (hi p0.toNatClampNeg) p1 ) (va_cwS 4 hts gX2_gets_X0_fitted rfl rfl rfl (by decide +kernel) ⟨by show 4 + 1 ≤ 5 + 0; omega, by show 8 + (7 + 11) + 94 ≤ 120 + 27 * 0; omega⟩) fb_s rfl rfl hl.1 rfl (lv_room (Nat.le_of_ble_eq_true rfl)) dX2_gets_19 ⟨Nat.zero_le _, Nat.zero_le _⟩) ?_
    refine lv_lstore (lv' := [(5, .long (n_fitted (kd p0.toNatClampNeg) (lo p0.toNatClampNeg) (hi p0.toNatClampNeg) p1)), (0, .ref (a 0)), (1, .int p0), (2, .long p1), (4, .int (nI (24 - 0)))]) hx hb dX2_gets_22 hl (by decide) rfl (fun ls hl => ?_)
    refine lv_lload hx hb dX2_gets_24 (lv_at hl 0 rfl) ?_
    refine lv_aload_n hx hb dX2_gets_26 rfl (lv_at hl 1 rfl) ?_
    refine va_get (D := (dC, dI)) (ci := 1) (v := .ref (a 4)) (C := RX2) (T := TX2) (N := 14) hx hb hts h_inX2 hown hK hP 0 rfl rfl 3 (by decide) k_3 (fun _ h9 => h9) rfl dX2_gets_27 ?_
    refine lv_iload_n hx hb dX2_gets_30 rfl (lv_at hl 2 rfl) ?_
    refine va_lald hx hb hK hP 4 1 rfl rfl (by assumption) dX2_gets_31 ?_
    refine W.lcmp hx hb dX2_gets_32 ?_
    refine lv_if_ne (tgt := 37) hx hb dX2_gets_33 (by decide) (fun c_1 => ?_) (fun c_1 => ?_)
    · skip
      have c_1 : ¬ ((n_fitted (kd p0.toNatClampNeg) (lo p0.toNatClampNeg) (hi p0.toNatClampNeg) p1) = (vl p0.toNatClampNeg)) := fun h => c_1 ((lg_cmp_eq _ _).mpr h)
      refine lv_aload_n hx hb dX2_gets_37 rfl (lv_at hl 1 rfl) ?_
      refine lv_iload_n hx hb dX2_gets_38 rfl (lv_at hl 2 rfl) ?_
      refine lv_lload hx hb dX2_gets_39 (lv_at hl 0 rfl) ?_
      have hFc := va_free (wc := (wX cI cJ cZ a kd lo hi vl nd so fr tg gn nr mo ma fa sv sd se sh)) hD hS hA [0, 1, 2, 3, 4, 5, 6, 7, 8, 9, 10, 11] rfl
      refine va_callv (va_runV (As := [.int p0, .long (n_fitted (kd p0.toNatClampNeg) (lo p0.toNatClampNeg) (hi p0.toNatClampNeg) p1)]) (rest := []) ⟨hx, hb, hml, hown, hts⟩ (c_X2_move l dC dI cI cJ cZ a kd lo hi vl nd so fr tg gn nr mo ma fa sv sd se sh p0 (n_fitted (kd p0.toNatClampNeg) (lo p0.toNatClampNeg) (hi p0.toNatClampNeg) p1) hE hn hd s.heap.size) (cwV 2 hts gX2_gets_X2_move rfl rfl rfl (by decide +kernel) ⟨by show 2 + 1 ≤ 5 + 0; omega, by show 8 + (4 + 11) + 49 ≤ 120 + 27 * 0; omega⟩) (fb_m hK hP hD (va_recv hK hP (ci := 1) (q0 := 0) rfl rfl)) rfl rfl hl.1 rfl (lv_room (Nat.le_of_ble_eq_true rfl)) dX2_gets_41 ⟨Nat.zero_le _, Nat.zero_le _⟩) hS (fun q _ h => hFc q h) hFc (fun u t H1 locs ht hvm hw_2 hB hz1 hk1 hS => ?_)
      obtain ⟨kd_2, lo_2, hi_2, vl_2, nd_2, so_2, fr_2, tg_2, gn_2, nr_2, mo_2, ma_2, fa_2, sv_2, sd_2, se_2, sh_2⟩ := u
      rw [x_move_eq] at hw_2
      have hw_2 := hw_2.symm
      simp only [Prod.mk.injEq] at hw_2
      obtain ⟨rfl, rfl, rfl, rfl, rfl, rfl, rfl, rfl, rfl, rfl, rfl, rfl, rfl, rfl, rfl, rfl, rfl⟩ := hw_2
      obtain ⟨hP1, hK1, hD1⟩ := hB
      rw [ht] at hP1
      obtain ⟨hP, hD⟩ := va_join (wr := []) (w1 := (wX cI cJ cZ a kd lo hi (vp_updL vl p0.toNatClampNeg (n_fitted (kd p0.toNatClampNeg) (lo p0.toNatClampNeg) (hi p0.toNatClampNeg) p1)) nd so fr tg gn nr (mo + 1) (ma + 1) fa (if mo = 0 then (k_sv vl sv se sh nd) else sv) (if mo = 0 then (k_sd sd se sh nd) else sd) (if mo = 0 then (k_se se sh) else se) (if mo = 0 then (k_sh sh) else sh))) hP hD [0, 1, 2, 3, 4, 5, 6, 7, 8, 9, 10, 11] [] rfl rfl (by decide) (by decide) hk1 hFc hP1 hD1
      generalize H1 = H at hP hS ⊢
      have hP : va_P (dC, dI) vwCl (wX cI cJ cZ a kd lo hi (vp_updL vl p0.toNatClampNeg (n_fitted (kd p0.toNatClampNeg) (lo p0.toNatClampNeg) (hi p0.toNatClampNeg) p1)) nd so fr tg gn nr (mo + 1) (ma + 1) fa (if mo = 0 then (k_sv vl sv se sh nd) else sv) (if mo = 0 then (k_sd sd se sh nd) else sd) (if mo = 0 then (k_se se sh) else se) (if mo = 0 then (k_sh sh) else sh)) H := hP
      have hD : va_D A (wX cI cJ cZ a kd lo hi (vp_updL vl p0.toNatClampNeg (n_fitted (kd p0.toNatClampNeg) (lo p0.toNatClampNeg) (hi p0.toNatClampNeg) p1)) nd so fr tg gn nr (mo + 1) (ma + 1) fa (if mo = 0 then (k_sv vl sv se sh nd) else sv) (if mo = 0 then (k_sd sd se sh nd) else sd) (if mo = 0 then (k_se se sh) else se) (if mo = 0 then (k_sh sh) else sh)) := hD
      refine lv_iload hx hb dX2_gets_44 (lv_at hl 4 rfl) ?_
      refine lv_bipush (v := 24) hx hb dX2_gets_46 (by decide) ?_
      refine lv_icmp_lt (tgt := 52) hx hb dX2_gets_48 (by decide) (fun c_3 => ?_) (fun c_3 => ?_)
      · skip
        exact absurd c_3 (by decide)
      · skip
        exact W.vret hx hb hr (fun t ht hW => ⟨⟨(kd, lo, hi, (vp_updL vl p0.toNatClampNeg (n_fitted (kd p0.toNatClampNeg) (lo p0.toNatClampNeg) (hi p0.toNatClampNeg) p1)), nd, so, fr, tg, gn, nr, (mo + 1), (ma + 1), fa, (if mo = 0 then (k_sv vl sv se sh nd) else sv), (if mo = 0 then (k_sd sd se sh nd) else sd), (if mo = 0 then (k_se se sh) else se), (if mo = 0 then (k_sh sh) else sh)), rfl, (congrArg (g_tup kd lo hi nd so fr tg nr fa) (x_gets_zero (u := (vl, gn, mo, ma, sv, sd, se, sh)) c_1)).symm, by rw [ht]; exact hP, va_K.moved hW.alike hK, hD⟩, hS.F ht⟩) hS.2.2 dX2_gets_51
    · skip
      have c_1 : (n_fitted (kd p0.toNatClampNeg) (lo p0.toNatClampNeg) (hi p0.toNatClampNeg) p1) = (vl p0.toNatClampNeg) := (lg_cmp_eq _ _).mp c_1
      exact W.vret hx hb hr (fun t ht hW => ⟨⟨(kd, lo, hi, vl, nd, so, fr, tg, gn, nr, mo, ma, fa, sv, sd, se, sh), rfl, (congrArg (g_tup kd lo hi nd so fr tg nr fa) (x_gets_same (u := (vl, gn, mo, ma, sv, sd, se, sh)) c_1)).symm, by rw [ht]; exact hP, va_K.moved hW.alike hK, hD⟩, hS.F ht⟩) hS.2.2 dX2_gets_36
  | succ k ih =>
    intro hk vl gn mo ma sv sd se sh p0 p1 hE hd sz
    refine Met.ofW (cc := cX2_gets) (maxL := 8) (ret := none) (by decide) rfl ?_
    intro p e s m args below meth c s₁ B hml hv
    obtain ⟨rfl, hsz, hP, hK, hD0⟩ := hv
    subst hsz
    have hD := hD0.self (sz := s.heap.size)
    generalize hAe : va_A (wX cI cJ cZ a kd lo hi vl nd so fr tg gn nr mo ma fa sv sd se sh) s.heap.size = A at hD ⊢
    have hA : ∀ q : Nat, s.heap.size ≤ q → A q := fun q h => by rw [← hAe]; exact Or.inr h
    have hS : va_S A s.heap s.heap [] := va_S.rf
    have hP : va_P (dC, dI) vwCl (wX cI cJ cZ a kd lo hi vl nd so fr tg gn nr mo ma fa sv sd se sh) s.heap := hP
    have hx := B.exec
    have hb := B.bytes
    have hr := B.returns
    have hts := atoms_spec (ws := wsX2_gets) B.pre
    have hown : s.vm.findClass RX2 = some m.cls := findClass_of_methodNamed B.named
    have hlocks := B.notSynchronized
    have h_inX2 : ∀ w ∈ wsX20, w ∈ wsX2_gets := fun _ h => List.mem_cons_of_mem _ (List.mem_append_left _ (List.mem_append_right _ h))
    have k_0 := hts (.fieldLink RX2 9 "DetentCabinet" "kinds" "[I") (by decide +kernel)
    have k_1 := hts (.fieldLink RX2 13 "DetentCabinet" "lows" "[J") (by decide +kernel)
    have k_2 := hts (.fieldLink RX2 17 "DetentCabinet" "highs" "[J") (by decide +kernel)
    have k_3 := hts (.fieldLink RX2 20 "DetentCabinet" "values" "[J") (by decide +kernel)
    have hl := lv_entry ([.ref (a 0), .int p0, .long p1, .int (nI (24 - (k + 1)))]) (n := 8) (Nat.le_of_ble_eq_true rfl)
    rw [lg_entry_eq]
    generalize (lg_sl ([.ref (a 0), .int p0, .long p1, .int (nI (24 - (k + 1)))]) ++ List.replicate (8 - (lg_sl ([.ref (a 0), .int p0, .long p1, .int (nI (24 - (k + 1)))])).length) Slot.unset).toArray = ls at hl ⊢
    have hl : lv_has ls 8 [(0, .ref (a 0)), (1, .int p0), (2, .long p1), (4, .int (nI (24 - (k + 1))))] := hl
    refine lv_aload_n hx hb dX2_gets_0 rfl (lv_at hl 0 rfl) ?_
    refine va_get (D := (dC, dI)) (ci := 1) (v := .ref (a 1)) (C := RX2) (T := TX2) (N := 14) hx hb hts h_inX2 hown hK hP 0 rfl rfl 0 (by decide) k_0 (fun _ h9 => h9) rfl dX2_gets_1 ?_
    refine lv_iload_n hx hb dX2_gets_4 rfl (lv_at hl 1 rfl) ?_
    refine va_iald hx hb hK hP 1 0 rfl rfl (by assumption) dX2_gets_5 ?_
    refine lv_aload_n hx hb dX2_gets_6 rfl (lv_at hl 0 rfl) ?_
    refine va_get (D := (dC, dI)) (ci := 1) (v := .ref (a 2)) (C := RX2) (T := TX2) (N := 14) hx hb hts h_inX2 hown hK hP 0 rfl rfl 1 (by decide) k_1 (fun _ h9 => h9) rfl dX2_gets_7 ?_
    refine lv_iload_n hx hb dX2_gets_10 rfl (lv_at hl 1 rfl) ?_
    refine va_lald hx hb hK hP 2 1 rfl rfl (by assumption) dX2_gets_11 ?_
    refine lv_aload_n hx hb dX2_gets_12 rfl (lv_at hl 0 rfl) ?_
    refine va_get (D := (dC, dI)) (ci := 1) (v := .ref (a 3)) (C := RX2) (T := TX2) (N := 14) hx hb hts h_inX2 hown hK hP 0 rfl rfl 2 (by decide) k_2 (fun _ h9 => h9) rfl dX2_gets_13 ?_
    refine lv_iload_n hx hb dX2_gets_16 rfl (lv_at hl 1 rfl) ?_
    refine va_lald hx hb hK hP 3 1 rfl rfl (by assumption) dX2_gets_17 ?_
    refine lv_lload_n hx hb dX2_gets_18 rfl (lv_at hl 2 rfl) ?_
    refine cs_l (W.runS (As := [.int (kd p0.toNatClampNeg), .long (lo p0.toNatClampNeg), .long (hi p0.toNatClampNeg), .long p1]) (rest := []) ⟨hx, hb, hml, hown, hts⟩ (c_X0_fitted l (kd p0.toNatClampNeg) (lo p0.toNatClampNeg) (hi p0.toNatClampNeg) p1 ) (va_cwS 4 hts gX2_gets_X0_fitted rfl rfl rfl (by decide +kernel) ⟨by show 4 + 1 ≤ 5 + (k + 1); omega, by show 8 + (7 + 11) + 94 ≤ 120 + 27 * (k + 1); omega⟩) fb_s rfl rfl hl.1 rfl (lv_room (Nat.le_of_ble_eq_true rfl)) dX2_gets_19 ⟨Nat.zero_le _, Nat.zero_le _⟩) ?_
    refine lv_lstore (lv' := [(5, .long (n_fitted (kd p0.toNatClampNeg) (lo p0.toNatClampNeg) (hi p0.toNatClampNeg) p1)), (0, .ref (a 0)), (1, .int p0), (2, .long p1), (4, .int (nI (24 - (k + 1))))]) hx hb dX2_gets_22 hl (by decide) rfl (fun ls hl => ?_)
    refine lv_lload hx hb dX2_gets_24 (lv_at hl 0 rfl) ?_
    refine lv_aload_n hx hb dX2_gets_26 rfl (lv_at hl 1 rfl) ?_
    refine va_get (D := (dC, dI)) (ci := 1) (v := .ref (a 4)) (C := RX2) (T := TX2) (N := 14) hx hb hts h_inX2 hown hK hP 0 rfl rfl 3 (by decide) k_3 (fun _ h9 => h9) rfl dX2_gets_27 ?_
    refine lv_iload_n hx hb dX2_gets_30 rfl (lv_at hl 2 rfl) ?_
    refine va_lald hx hb hK hP 4 1 rfl rfl (by assumption) dX2_gets_31 ?_
    refine W.lcmp hx hb dX2_gets_32 ?_
    refine lv_if_ne (tgt := 37) hx hb dX2_gets_33 (by decide) (fun c_1 => ?_) (fun c_1 => ?_)
    · skip
      have c_1 : ¬ ((n_fitted (kd p0.toNatClampNeg) (lo p0.toNatClampNeg) (hi p0.toNatClampNeg) p1) = (vl p0.toNatClampNeg)) := fun h => c_1 ((lg_cmp_eq _ _).mpr h)
      refine lv_aload_n hx hb dX2_gets_37 rfl (lv_at hl 1 rfl) ?_
      refine lv_iload_n hx hb dX2_gets_38 rfl (lv_at hl 2 rfl) ?_
      refine lv_lload hx hb dX2_gets_39 (lv_at hl 0 rfl) ?_
      have hFc := va_free (wc := (wX cI cJ cZ a kd lo hi vl nd so fr tg gn nr mo ma fa sv sd se sh)) hD hS hA [0, 1, 2, 3, 4, 5, 6, 7, 8, 9, 10, 11] rfl
      refine va_callv (va_runV (As := [.int p0, .long (n_fitted (kd p0.toNatClampNeg) (lo p0.toNatClampNeg) (hi p0.toNatClampNeg) p1)]) (rest := []) ⟨hx, hb, hml, hown, hts⟩ (c_X2_move l dC dI cI cJ cZ a kd lo hi vl nd so fr tg gn nr mo ma fa sv sd se sh p0 (n_fitted (kd p0.toNatClampNeg) (lo p0.toNatClampNeg) (hi p0.toNatClampNeg) p1) hE hn hd s.heap.size) (cwV 2 hts gX2_gets_X2_move rfl rfl rfl (by decide +kernel) ⟨by show 2 + 1 ≤ 5 + (k + 1); omega, by show 8 + (4 + 11) + 49 ≤ 120 + 27 * (k + 1); omega⟩) (fb_m hK hP hD (va_recv hK hP (ci := 1) (q0 := 0) rfl rfl)) rfl rfl hl.1 rfl (lv_room (Nat.le_of_ble_eq_true rfl)) dX2_gets_41 ⟨Nat.zero_le _, Nat.zero_le _⟩) hS (fun q _ h => hFc q h) hFc (fun u t H1 locs ht hvm hw_2 hB hz1 hk1 hS => ?_)
      obtain ⟨kd_2, lo_2, hi_2, vl_2, nd_2, so_2, fr_2, tg_2, gn_2, nr_2, mo_2, ma_2, fa_2, sv_2, sd_2, se_2, sh_2⟩ := u
      rw [x_move_eq] at hw_2
      have hw_2 := hw_2.symm
      simp only [Prod.mk.injEq] at hw_2
      obtain ⟨rfl, rfl, rfl, rfl, rfl, rfl, rfl, rfl, rfl, rfl, rfl, rfl, rfl, rfl, rfl, rfl, rfl⟩ := hw_2
      obtain ⟨hP1, hK1, hD1⟩ := hB
      rw [ht] at hP1
      obtain ⟨hP, hD⟩ := va_join (wr := []) (w1 := (wX cI cJ cZ a kd lo hi (vp_updL vl p0.toNatClampNeg (n_fitted (kd p0.toNatClampNeg) (lo p0.toNatClampNeg) (hi p0.toNatClampNeg) p1)) nd so fr tg gn nr (mo + 1) (ma + 1) fa (if mo = 0 then (k_sv vl sv se sh nd) else sv) (if mo = 0 then (k_sd sd se sh nd) else sd) (if mo = 0 then (k_se se sh) else se) (if mo = 0 then (k_sh sh) else sh))) hP hD [0, 1, 2, 3, 4, 5, 6, 7, 8, 9, 10, 11] [] rfl rfl (by decide) (by decide) hk1 hFc hP1 hD1
      generalize H1 = H at hP hS ⊢
      have hP : va_P (dC, dI) vwCl (wX cI cJ cZ a kd lo hi (vp_updL vl p0.toNatClampNeg (n_fitted (kd p0.toNatClampNeg) (lo p0.toNatClampNeg) (hi p0.toNatClampNeg) p1)) nd so fr tg gn nr (mo + 1) (ma + 1) fa (if mo = 0 then (k_sv vl sv se sh nd) else sv) (if mo = 0 then (k_sd sd se sh nd) else sd) (if mo = 0 then (k_se se sh) else se) (if mo = 0 then (k_sh sh) else sh)) H := hP
      have hD : va_D A (wX cI cJ cZ a kd lo hi (vp_updL vl p0.toNatClampNeg (n_fitted (kd p0.toNatClampNeg) (lo p0.toNatClampNeg) (hi p0.toNatClampNeg) p1)) nd so fr tg gn nr (mo + 1) (ma + 1) fa (if mo = 0 then (k_sv vl sv se sh nd) else sv) (if mo = 0 then (k_sd sd se sh nd) else sd) (if mo = 0 then (k_se se sh) else se) (if mo = 0 then (k_sh sh) else sh)) := hD
      refine lv_iload hx hb dX2_gets_44 (lv_at hl 4 rfl) ?_
      refine lv_bipush (v := 24) hx hb dX2_gets_46 (by decide) ?_
      refine lv_icmp_lt (tgt := 52) hx hb dX2_gets_48 (by decide) (fun c_3 => ?_) (fun c_3 => ?_)
      · skip
        refine lv_iconst (v := 0) hx hb dX2_gets_52 (by decide) ?_
        refine lv_istore (lv' := [(7, .int (0 : Int32)), (5, .long (n_fitted (kd p0.toNatClampNeg) (lo p0.toNatClampNeg) (hi p0.toNatClampNeg) p1)), (0, .ref (a 0)), (1, .int p0), (2, .long p1), (4, .int (nI (24 - (k + 1))))]) hx hb dX2_gets_53 hl (by decide) rfl (fun ls hl => ?_)
        exact gets_loop kd lo hi nd so fr tg nr fa k nr.toNatClampNeg p0 (nI (24 - (k + 1))) p1 (n_fitted (kd p0.toNatClampNeg) (lo p0.toNatClampNeg) (hi p0.toNatClampNeg) p1) (x_gets kd lo hi nd so fr tg nr.toNatClampNeg (k + 1) (vl, gn, mo, ma, sv, sd, se, sh) p0 p1) ⟨hx, hb, hml, hown, hts⟩ hA hK hd htg (nr_nat hnr).1 (nr_nat hnr).2 (by rw [nI_1]; congr 1; omega) (ih (by omega)) ⟨by show 5 + k + 1 ≤ 5 + (k + 1); omega, by show 120 + 27 * k + 27 ≤ 120 + 27 * (k + 1); omega⟩ (fun vl gn mo ma sv sd se sh H locs ls hres hE hP hD hS _ => W.vret hx hb hr (fun t ht hW => ⟨⟨(kd, lo, hi, vl, nd, so, fr, tg, gn, nr, mo, ma, fa, sv, sd, se, sh), rfl, (congrArg (g_tup kd lo hi nd so fr tg nr fa) hres).symm, by rw [ht]; exact hP, va_K.moved hW.alike hK, hD⟩, hS.F ht⟩) hS.2.2 dX2_gets_133) nr.toNatClampNeg 0 _ (vp_updL vl p0.toNatClampNeg (n_fitted (kd p0.toNatClampNeg) (lo p0.toNatClampNeg) (hi p0.toNatClampNeg) p1)) gn (mo + 1) (ma + 1) (if mo = 0 then (k_sv vl sv se sh nd) else sv) (if mo = 0 then (k_sd sd se sh nd) else sd) (if mo = 0 then (k_se se sh) else se) (if mo = 0 then (k_sh sh) else sh) H locs ls (by omega) nI_0.symm (okE_i hE) (x_gets_succ (u := (vl, gn, mo, ma, sv, sd, se, sh)) c_1) hP hD hS (lv_sub hl [0, 1, 2, 3, 4, 5] rfl)
      · skip
        exact absurd (show nI (24 - (k + 1)) < nI 24 from nI_lt (by omega) (by decide)) c_3
    · skip
      have c_1 : (n_fitted (kd p0.toNatClampNeg) (lo p0.toNatClampNeg) (hi p0.toNatClampNeg) p1) = (vl p0.toNatClampNeg) := (lg_cmp_eq _ _).mp c_1
      exact W.vret hx hb hr (fun t ht hW => ⟨⟨(kd, lo, hi, vl, nd, so, fr, tg, gn, nr, mo, ma, fa, sv, sd, se, sh), rfl, (congrArg (g_tup kd lo hi nd so fr tg nr fa) (x_gets_same (u := (vl, gn, mo, ma, sv, sd, se, sh)) c_1)).symm, by rw [ht]; exact hP, va_K.moved hW.alike hK, hD⟩, hS.F ht⟩) hS.2.2 dX2_gets_36
end
section
def clr (gn : Nat → Int32) (n : Nat) : Nat → Int32 := fun j => if j < n then 0 else gn j
theorem clr_0 (gn : Nat → Int32) : clr gn 0 = gn := by
  funext j
  unfold clr
  rw [if_neg (Nat.not_lt_zero j)]
theorem clr_s (gn : Nat → Int32) {i : Nat} (h : i < 2 ^ 31) : upd (clr gn i) (nI i).toNatClampNeg 0 = clr gn (i + 1) := by
  rw [nI_clamp h]
  funext j
  unfold upd clr
  by_cases h1 : j = i
  · rw [if_pos h1, if_pos (by omega)]
  · rw [if_neg h1]
    by_cases h2 : j < i
    · rw [if_pos h2, if_pos (by omega)]
    · rw [if_neg h2, if_neg (by omega)]
set_option maxHeartbeats 4000000 in
set_option maxRecDepth 100000 in
theorem mwg_loop {p : Program} {l : Launch} {e : Env} {R : Room} {s : State} {m : MethodId} {args : Array Value} {below : List Frame} {meth : Method} {c : Code} {Q : State → Prop} {A : Nat → Prop} {dC : Nat → ClassId} {dI : Nat → Nat → Nat} {cI cJ cZ : ClassId} {a : Nat → Nat} (kd : Nat → Int32) (lo : Nat → Int64) (hi : Nat → Int64) (vl : Nat → Int64) (nd : Int32) (so : Nat → Int32) (fr : Nat → Int32) (tg : Nat → Int32) (gn : Nat → Int32) (nr : Int32) (mo : Int32) (ma : Int32) (fa : Int32) (sv : Nat → Int64) (sd : Nat → Int32) (se : Int32) (sh : Int32) (N : Nat) (p0 : Int32) (p1 : Int64) (C0 : CallFix p m c cX2_movesWhenGiven 5 s args wsX2_movesWhenGiven RX2) (hK : va_K (dC, dI) vwCl (tA cI cJ cZ) s) (hN : nr = nI N) (hN24 : N ≤ 24) (hend : ∀ (H : Heap) (locs : List Loc) (ls : Array Slot), va_P (dC, dI) vwCl (wX cI cJ cZ a kd lo hi vl nd so fr tg (clr gn N) nr mo ma fa sv sd se sh) H → va_D A (wX cI cJ cZ a kd lo hi vl nd so fr tg (clr gn N) nr mo ma fa sv sd se sh) → va_S A s.heap H locs → lv_has ls 5 [(0, .ref (a 0)), (1, .int p0), (2, .long p1)] → W p l e R s m args below meth c H locs 0 0 Q (F0 m 26 ls [])) :
    ∀ (n i : Nat) (x4 : Int32) (H : Heap) (locs : List Loc) (ls : Array Slot), i + n = N → x4 = nI i → va_P (dC, dI) vwCl (wX cI cJ cZ a kd lo hi vl nd so fr tg (clr gn i) nr mo ma fa sv sd se sh) H → va_D A (wX cI cJ cZ a kd lo hi vl nd so fr tg (clr gn i) nr mo ma fa sv sd se sh) → va_S A s.heap H locs → lv_has ls 5 [(4, .int x4), (0, .ref (a 0)), (1, .int p0), (2, .long p1)] → W p l e R s m args below meth c H locs 0 0 Q (F0 m 3 ls []) := by
  obtain ⟨hx, hb, hml, hown, hts⟩ := C0
  have h_inX2 : ∀ w ∈ wsX20, w ∈ wsX2_movesWhenGiven := fun _ h => List.mem_cons_of_mem _ (List.mem_append_left _ (List.mem_append_right _ h))
  have k_0 := hts (.fieldLink RX2 64 "DetentCabinet" "rodCount" "I") (by decide +kernel)
  have k_1 := hts (.fieldLink RX2 32 "DetentCabinet" "rodGone" "[Z") (by decide +kernel)
  intro n
  induction n with
  | zero =>
    intro i x4 H locs ls hin ex hP hD hS hl
    subst ex
    have hin9 : i = N := hin
    refine lv_iload hx hb dX2_movesWhenGiven_3 (lv_at hl 0 rfl) ?_
    refine lv_aload_n hx hb dX2_movesWhenGiven_5 rfl (lv_at hl 1 rfl) ?_
    refine va_get (D := (dC, dI)) (ci := 1) (v := .int nr) (C := RX2) (T := TX2) (N := 14) hx hb hts h_inX2 hown hK hP 0 rfl rfl 9 (by decide) k_0 (fun _ h9 => h9) rfl dX2_movesWhenGiven_6 ?_
    refine lv_icmp_ge (tgt := 26) hx hb dX2_movesWhenGiven_9 (by decide) (fun c_1 => ?_) (fun c_1 => ?_)
    · skip
      exact hend H locs ls (by rw [← hin9]; exact hP) (by rw [← hin9]; exact hD) hS (lv_sub hl [1, 2, 3] rfl)
    · skip
      exact absurd (by rw [hN]; exact nI_le (by omega) (by omega)) c_1
  | succ n ih =>
    intro i x4 H locs ls hin ex hP hD hS hl
    subst ex
    refine lv_iload hx hb dX2_movesWhenGiven_3 (lv_at hl 0 rfl) ?_
    refine lv_aload_n hx hb dX2_movesWhenGiven_5 rfl (lv_at hl 1 rfl) ?_
    refine va_get (D := (dC, dI)) (ci := 1) (v := .int nr) (C := RX2) (T := TX2) (N := 14) hx hb hts h_inX2 hown hK hP 0 rfl rfl 9 (by decide) k_0 (fun _ h9 => h9) rfl dX2_movesWhenGiven_6 ?_
    refine lv_icmp_ge (tgt := 26) hx hb dX2_movesWhenGiven_9 (by decide) (fun c_1 => ?_) (fun c_1 => ?_)
    · skip
      exact absurd (by rw [hN] at c_1; exact c_1) (nI_ge (by omega) (by omega))
    · skip
      refine lv_aload_n hx hb dX2_movesWhenGiven_12 rfl (lv_at hl 1 rfl) ?_
      refine va_get (D := (dC, dI)) (ci := 1) (v := .ref (a 8)) (C := RX2) (T := TX2) (N := 14) hx hb hts h_inX2 hown hK hP 0 rfl rfl 8 (by decide) k_1 (fun _ h9 => h9) rfl dX2_movesWhenGiven_13 ?_
      refine lv_iload hx hb dX2_movesWhenGiven_16 (lv_at hl 0 rfl) ?_
      refine lv_iconst (v := 0) hx hb dX2_movesWhenGiven_18 (by decide) ?_
      refine va_zast hx hb hK hP hD hS 8 2 rfl rfl (vp_in_nI (by omega) (by decide)) dX2_movesWhenGiven_19 (fun H locs hP hD hS => ?_)
      rw [nar_0] at hP hD
      have hP : va_P (dC, dI) vwCl (wX cI cJ cZ a kd lo hi vl nd so fr tg (upd (clr gn i) (nI i).toNatClampNeg (0 : Int32)) nr mo ma fa sv sd se sh) H := hP
      have hD : va_D A (wX cI cJ cZ a kd lo hi vl nd so fr tg (upd (clr gn i) (nI i).toNatClampNeg (0 : Int32)) nr mo ma fa sv sd se sh) := hD
      refine lv_iinc (v := ((nI i) + 1)) (lv' := [(4, .int ((nI i) + 1)), (0, .ref (a 0)), (1, .int p0), (2, .long p1)]) hx hb dX2_movesWhenGiven_20 hl (k := 0) rfl rfl (by decide) rfl (fun ls hl => ?_)
      refine lv_goto (tgt := 3) hx hb dX2_movesWhenGiven_23 (by decide) ?_
      rw [clr_s gn (by omega)] at hP hD
      exact ih (i + 1) _ H locs ls (by omega) (nI_1 i) hP hD hS (lv_sub hl [0, 1, 2, 3] rfl)
def x_movesWhenGiven (kd : Nat → Int32) (lo : Nat → Int64) (hi : Nat → Int64) (vl : Nat → Int64) (nd : Int32) (so : Nat → Int32) (fr : Nat → Int32) (tg : Nat → Int32) (gn : Nat → Int32) (nr : Int32) (mo : Int32) (ma : Int32) (fa : Int32) (sv : Nat → Int64) (sd : Nat → Int32) (se : Int32) (sh : Int32) (p0 : Int32) (p1 : Int64) : Int32 × XS :=
  ((x_gets kd lo hi nd so fr tg nr.toNatClampNeg 24 (vl, (clr gn nr.toNatClampNeg), (0 : Int32), ma, sv, sd, se, sh) p0 p1).2.2.1, kd, lo, hi, (x_gets kd lo hi nd so fr tg nr.toNatClampNeg 24 (vl, (clr gn nr.toNatClampNeg), (0 : Int32), ma, sv, sd, se, sh) p0 p1).1, nd, so, fr, tg, (x_gets kd lo hi nd so fr tg nr.toNatClampNeg 24 (vl, (clr gn nr.toNatClampNeg), (0 : Int32), ma, sv, sd, se, sh) p0 p1).2.1, nr, (x_gets kd lo hi nd so fr tg nr.toNatClampNeg 24 (vl, (clr gn nr.toNatClampNeg), (0 : Int32), ma, sv, sd, se, sh) p0 p1).2.2.1, (x_gets kd lo hi nd so fr tg nr.toNatClampNeg 24 (vl, (clr gn nr.toNatClampNeg), (0 : Int32), ma, sv, sd, se, sh) p0 p1).2.2.2.1, fa, (x_gets kd lo hi nd so fr tg nr.toNatClampNeg 24 (vl, (clr gn nr.toNatClampNeg), (0 : Int32), ma, sv, sd, se, sh) p0 p1).2.2.2.2.1, (x_gets kd lo hi nd so fr tg nr.toNatClampNeg 24 (vl, (clr gn nr.toNatClampNeg), (0 : Int32), ma, sv, sd, se, sh) p0 p1).2.2.2.2.2.1, (x_gets kd lo hi nd so fr tg nr.toNatClampNeg 24 (vl, (clr gn nr.toNatClampNeg), (0 : Int32), ma, sv, sd, se, sh) p0 p1).2.2.2.2.2.2.1, (x_gets kd lo hi nd so fr tg nr.toNatClampNeg 24 (vl, (clr gn nr.toNatClampNeg), (0 : Int32), ma, sv, sd, se, sh) p0 p1).2.2.2.2.2.2.2)
set_option maxHeartbeats 4000000 in
set_option maxRecDepth 100000 in
theorem c_X2_movesWhenGiven (l : Launch) (dC : Nat → ClassId) (dI : Nat → Nat → Nat) (cI cJ cZ : ClassId) (a : Nat → Nat) (kd : Nat → Int32) (lo : Nat → Int64) (hi : Nat → Int64) (vl : Nat → Int64) (nd : Int32) (so : Nat → Int32) (fr : Nat → Int32) (tg : Nat → Int32) (gn : Nat → Int32) (nr : Int32) (mo : Int32) (ma : Int32) (fa : Int32) (sv : Nat → Int64) (sd : Nat → Int32) (se : Int32) (sh : Int32) (p0 : Int32) (p1 : Int64) (hE : okE se sh) (hn : 0 ≤ nd ∧ nd ≤ 16) (hnr : 0 ≤ nr ∧ nr ≤ 24) (htg : ∀ j, vp_in (tg j) 16) (hd : vp_in p0 16) (sz : Nat) : Met l yX2_movesWhenGiven wsX2_movesWhenGiven ({ frames := 30, cells := 0, slots := 0, locals := 795 }) (va_Pc [.ref (a 0), .int p0, .long p1] (fun U => U.heap.size = sz ∧ va_P (dC, dI) vwCl (wX cI cJ cZ a kd lo hi vl nd so fr tg gn nr mo ma fa sv sd se sh) U.heap ∧ va_K (dC, dI) vwCl (tA cI cJ cZ) U ∧ va_D (fun _ => True) (wX cI cJ cZ a kd lo hi vl nd so fr tg gn nr mo ma fa sv sd se sh))) (va_Qi (fun (r : Int32) (u : XS) => (r, u) = x_movesWhenGiven kd lo hi vl nd so fr tg gn nr mo ma fa sv sd se sh p0 p1) (at_X dC dI cI cJ cZ (va_A (wX cI cJ cZ a kd lo hi vl nd so fr tg gn nr mo ma fa sv sd se sh) sz) a) (va_A (wX cI cJ cZ a kd lo hi vl nd so fr tg gn nr mo ma fa sv sd se sh) sz)) 0 0 (va_A (wX cI cJ cZ a kd lo hi vl nd so fr tg gn nr mo ma fa sv sd se sh) sz) := by
  refine Met.ofW (cc := cX2_movesWhenGiven) (maxL := 5) (ret := (some .int)) (by decide) rfl ?_
  intro p e s m args below meth c s₁ B hml hv
  obtain ⟨rfl, hsz, hP, hK, hD0⟩ := hv
  subst hsz
  have hD := hD0.self (sz := s.heap.size)
  generalize hAe : va_A (wX cI cJ cZ a kd lo hi vl nd so fr tg gn nr mo ma fa sv sd se sh) s.heap.size = A at hD ⊢
  have hA : ∀ q : Nat, s.heap.size ≤ q → A q := fun q h => by rw [← hAe]; exact Or.inr h
  have hS : va_S A s.heap s.heap [] := va_S.rf
  have hP : va_P (dC, dI) vwCl (wX cI cJ cZ a kd lo hi vl nd so fr tg gn nr mo ma fa sv sd se sh) s.heap := hP
  have hx := B.exec
  have hb := B.bytes
  have hr := B.returns
  have hts := atoms_spec (ws := wsX2_movesWhenGiven) B.pre
  have hown : s.vm.findClass RX2 = some m.cls := findClass_of_methodNamed B.named
  have hlocks := B.notSynchronized
  have h_inX2 : ∀ w ∈ wsX20, w ∈ wsX2_movesWhenGiven := fun _ h => List.mem_cons_of_mem _ (List.mem_append_left _ (List.mem_append_right _ h))
  have k_0 := hts (.fieldLink RX2 123 "DetentCabinet" "movesOfCall" "I") (by decide +kernel)
  have hl := lv_entry ([.ref (a 0), .int p0, .long p1]) (n := 5) (Nat.le_of_ble_eq_true rfl)
  rw [lg_entry_eq]
  generalize (lg_sl ([.ref (a 0), .int p0, .long p1]) ++ List.replicate (5 - (lg_sl ([.ref (a 0), .int p0, .long p1])).length) Slot.unset).toArray = ls at hl ⊢
  have hl : lv_has ls 5 [(0, .ref (a 0)), (1, .int p0), (2, .long p1)] := hl
  refine lv_iconst (v := 0) hx hb dX2_movesWhenGiven_0 (by decide) ?_
  refine lv_istore (lv' := [(4, .int (0 : Int32)), (0, .ref (a 0)), (1, .int p0), (2, .long p1)]) hx hb dX2_movesWhenGiven_1 hl (by decide) rfl (fun ls hl => ?_)
  refine mwg_loop kd lo hi vl nd so fr tg gn nr mo ma fa sv sd se sh nr.toNatClampNeg p0 p1 ⟨hx, hb, hml, hown, hts⟩ hK (nr_nat hnr).1 (nr_nat hnr).2 (fun H locs ls hP hD hS hl => ?_) nr.toNatClampNeg 0 _ s.heap [] ls (by omega) nI_0.symm (by rw [clr_0]; exact hP) (by rw [clr_0]; exact hD) hS (lv_sub hl [0, 1, 2, 3] rfl)
  refine lv_aload_n hx hb dX2_movesWhenGiven_26 rfl (lv_at hl 0 rfl) ?_
  refine lv_iconst (v := 0) hx hb dX2_movesWhenGiven_27 (by decide) ?_
  refine va_put (D := (dC, dI)) (ci := 1) (v := .int (0 : Int32)) (ty := .int) (C := RX2) (T := TX2) (N := 14) hx hb hts h_inX2 tyX2 tyX2_ok nmX2 hown hK hP hD hS 0 rfl rfl 11 (by decide) k_0 (fun _ h9 => h9) rfl (by decide +kernel) rfl rfl (Nat.le_of_ble_eq_true rfl) dX2_movesWhenGiven_28 (fun H locs hP hD hS => ?_)
  have hP : va_P (dC, dI) vwCl (wX cI cJ cZ a kd lo hi vl nd so fr tg (clr gn nr.toNatClampNeg) nr (0 : Int32) ma fa sv sd se sh) H := hP
  have hD : va_D A (wX cI cJ cZ a kd lo hi vl nd so fr tg (clr gn nr.toNatClampNeg) nr (0 : Int32) ma fa sv sd se sh) := hD
  refine lv_aload_n hx hb dX2_movesWhenGiven_31 rfl (lv_at hl 0 rfl) ?_
  refine lv_iload_n hx hb dX2_movesWhenGiven_32 rfl (lv_at hl 1 rfl) ?_
  refine lv_lload_n hx hb dX2_movesWhenGiven_33 rfl (lv_at hl 2 rfl) ?_
  refine lv_iconst (v := 0) hx hb dX2_movesWhenGiven_34 (by decide) ?_
  have hFc := va_free (wc := (wX cI cJ cZ a kd lo hi vl nd so fr tg (clr gn nr.toNatClampNeg) nr (0 : Int32) ma fa sv sd se sh)) hD hS hA [0, 1, 2, 3, 4, 5, 6, 7, 8, 9, 10, 11] rfl
  refine W.eq (g2 := F0 m 35 ls [.int (nI (24 - 24)), .long p1, .int p0, .ref (a 0)]) rfl ?_
  refine va_callv (va_runV (As := [.int p0, .long p1, .int (nI (24 - 24))]) (rest := []) ⟨hx, hb, hml, hown, hts⟩ (gets_all l dC dI cI cJ cZ a kd lo hi nd so fr tg nr fa hn hnr htg 24 (Nat.le_refl _) vl (clr gn nr.toNatClampNeg) (0 : Int32) ma sv sd se sh p0 p1 hE hd H.size) (cwV 3 hts gX2_movesWhenGiven_X2_gets rfl rfl rfl (by decide +kernel) ⟨Nat.le_of_ble_eq_true rfl, Nat.le_of_ble_eq_true rfl⟩) (fb_m hK hP hD (va_recv hK hP (ci := 1) (q0 := 0) rfl rfl)) rfl rfl hl.1 rfl (lv_room (Nat.le_of_ble_eq_true rfl)) dX2_movesWhenGiven_35 ⟨Nat.zero_le _, Nat.zero_le _⟩) hS (fun q _ h => hFc q h) hFc (fun u t H1 locs ht hvm hw_1 hB hz1 hk1 hS => ?_)
  obtain ⟨kd_1, lo_1, hi_1, vl_1, nd_1, so_1, fr_1, tg_1, gn_1, nr_1, mo_1, ma_1, fa_1, sv_1, sd_1, se_1, sh_1⟩ := u
  have hw_1 := hw_1.symm
  simp only [Prod.mk.injEq] at hw_1
  obtain ⟨rfl, rfl, rfl, rfl, rfl, rfl, rfl, rfl, rfl, rfl, rfl, rfl, rfl, rfl, rfl, rfl, rfl⟩ := hw_1
  obtain ⟨hP1, hK1, hD1⟩ := hB
  rw [ht] at hP1
  obtain ⟨hP, hD⟩ := va_join (wr := []) (w1 := (wX cI cJ cZ a kd lo hi ((x_gets kd lo hi nd so fr tg nr.toNatClampNeg 24 (vl, (clr gn nr.toNatClampNeg), (0 : Int32), ma, sv, sd, se, sh) p0 p1).1) nd so fr tg ((x_gets kd lo hi nd so fr tg nr.toNatClampNeg 24 (vl, (clr gn nr.toNatClampNeg), (0 : Int32), ma, sv, sd, se, sh) p0 p1).2.1) nr ((x_gets kd lo hi nd so fr tg nr.toNatClampNeg 24 (vl, (clr gn nr.toNatClampNeg), (0 : Int32), ma, sv, sd, se, sh) p0 p1).2.2.1) ((x_gets kd lo hi nd so fr tg nr.toNatClampNeg 24 (vl, (clr gn nr.toNatClampNeg), (0 : Int32), ma, sv, sd, se, sh) p0 p1).2.2.2.1) fa ((x_gets kd lo hi nd so fr tg nr.toNatClampNeg 24 (vl, (clr gn nr.toNatClampNeg), (0 : Int32), ma, sv, sd, se, sh) p0 p1).2.2.2.2.1) ((x_gets kd lo hi nd so fr tg nr.toNatClampNeg 24 (vl, (clr gn nr.toNatClampNeg), (0 : Int32), ma, sv, sd, se, sh) p0 p1).2.2.2.2.2.1) ((x_gets kd lo hi nd so fr tg nr.toNatClampNeg 24 (vl, (clr gn nr.toNatClampNeg), (0 : Int32), ma, sv, sd, se, sh) p0 p1).2.2.2.2.2.2.1) ((x_gets kd lo hi nd so fr tg nr.toNatClampNeg 24 (vl, (clr gn nr.toNatClampNeg), (0 : Int32), ma, sv, sd, se, sh) p0 p1).2.2.2.2.2.2.2))) hP hD [0, 1, 2, 3, 4, 5, 6, 7, 8, 9, 10, 11] [] rfl rfl (by decide) (by decide) hk1 hFc hP1 hD1
  generalize H1 = H at hP hS ⊢
  have hP : va_P (dC, dI) vwCl (wX cI cJ cZ a kd lo hi ((x_gets kd lo hi nd so fr tg nr.toNatClampNeg 24 (vl, (clr gn nr.toNatClampNeg), (0 : Int32), ma, sv, sd, se, sh) p0 p1).1) nd so fr tg ((x_gets kd lo hi nd so fr tg nr.toNatClampNeg 24 (vl, (clr gn nr.toNatClampNeg), (0 : Int32), ma, sv, sd, se, sh) p0 p1).2.1) nr ((x_gets kd lo hi nd so fr tg nr.toNatClampNeg 24 (vl, (clr gn nr.toNatClampNeg), (0 : Int32), ma, sv, sd, se, sh) p0 p1).2.2.1) ((x_gets kd lo hi nd so fr tg nr.toNatClampNeg 24 (vl, (clr gn nr.toNatClampNeg), (0 : Int32), ma, sv, sd, se, sh) p0 p1).2.2.2.1) fa ((x_gets kd lo hi nd so fr tg nr.toNatClampNeg 24 (vl, (clr gn nr.toNatClampNeg), (0 : Int32), ma, sv, sd, se, sh) p0 p1).2.2.2.2.1) ((x_gets kd lo hi nd so fr tg nr.toNatClampNeg 24 (vl, (clr gn nr.toNatClampNeg), (0 : Int32), ma, sv, sd, se, sh) p0 p1).2.2.2.2.2.1) ((x_gets kd lo hi nd so fr tg nr.toNatClampNeg 24 (vl, (clr gn nr.toNatClampNeg), (0 : Int32), ma, sv, sd, se, sh) p0 p1).2.2.2.2.2.2.1) ((x_gets kd lo hi nd so fr tg nr.toNatClampNeg 24 (vl, (clr gn nr.toNatClampNeg), (0 : Int32), ma, sv, sd, se, sh) p0 p1).2.2.2.2.2.2.2)) H := hP
  have hD : va_D A (wX cI cJ cZ a kd lo hi ((x_gets kd lo hi nd so fr tg nr.toNatClampNeg 24 (vl, (clr gn nr.toNatClampNeg), (0 : Int32), ma, sv, sd, se, sh) p0 p1).1) nd so fr tg ((x_gets kd lo hi nd so fr tg nr.toNatClampNeg 24 (vl, (clr gn nr.toNatClampNeg), (0 : Int32), ma, sv, sd, se, sh) p0 p1).2.1) nr ((x_gets kd lo hi nd so fr tg nr.toNatClampNeg 24 (vl, (clr gn nr.toNatClampNeg), (0 : Int32), ma, sv, sd, se, sh) p0 p1).2.2.1) ((x_gets kd lo hi nd so fr tg nr.toNatClampNeg 24 (vl, (clr gn nr.toNatClampNeg), (0 : Int32), ma, sv, sd, se, sh) p0 p1).2.2.2.1) fa ((x_gets kd lo hi nd so fr tg nr.toNatClampNeg 24 (vl, (clr gn nr.toNatClampNeg), (0 : Int32), ma, sv, sd, se, sh) p0 p1).2.2.2.2.1) ((x_gets kd lo hi nd so fr tg nr.toNatClampNeg 24 (vl, (clr gn nr.toNatClampNeg), (0 : Int32), ma, sv, sd, se, sh) p0 p1).2.2.2.2.2.1) ((x_gets kd lo hi nd so fr tg nr.toNatClampNeg 24 (vl, (clr gn nr.toNatClampNeg), (0 : Int32), ma, sv, sd, se, sh) p0 p1).2.2.2.2.2.2.1) ((x_gets kd lo hi nd so fr tg nr.toNatClampNeg 24 (vl, (clr gn nr.toNatClampNeg), (0 : Int32), ma, sv, sd, se, sh) p0 p1).2.2.2.2.2.2.2)) := hD
  refine lv_aload_n hx hb dX2_movesWhenGiven_38 rfl (lv_at hl 0 rfl) ?_
  refine va_get (D := (dC, dI)) (ci := 1) (v := .int ((x_gets kd lo hi nd so fr tg nr.toNatClampNeg 24 (vl, (clr gn nr.toNatClampNeg), (0 : Int32), ma, sv, sd, se, sh) p0 p1).2.2.1)) (C := RX2) (T := TX2) (N := 14) hx hb hts h_inX2 hown hK hP 0 rfl rfl 11 (by decide) k_0 (fun _ h9 => h9) rfl dX2_movesWhenGiven_39 ?_
  exact W.iret (v := (x_gets kd lo hi nd so fr tg nr.toNatClampNeg 24 (vl, (clr gn nr.toNatClampNeg), (0 : Int32), ma, sv, sd, se, sh) p0 p1).2.2.1) hx hb hr (fun t ht hW => ⟨⟨(x_gets kd lo hi nd so fr tg nr.toNatClampNeg 24 (vl, (clr gn nr.toNatClampNeg), (0 : Int32), ma, sv, sd, se, sh) p0 p1).2.2.1, (kd, lo, hi, (x_gets kd lo hi nd so fr tg nr.toNatClampNeg 24 (vl, (clr gn nr.toNatClampNeg), (0 : Int32), ma, sv, sd, se, sh) p0 p1).1, nd, so, fr, tg, (x_gets kd lo hi nd so fr tg nr.toNatClampNeg 24 (vl, (clr gn nr.toNatClampNeg), (0 : Int32), ma, sv, sd, se, sh) p0 p1).2.1, nr, (x_gets kd lo hi nd so fr tg nr.toNatClampNeg 24 (vl, (clr gn nr.toNatClampNeg), (0 : Int32), ma, sv, sd, se, sh) p0 p1).2.2.1, (x_gets kd lo hi nd so fr tg nr.toNatClampNeg 24 (vl, (clr gn nr.toNatClampNeg), (0 : Int32), ma, sv, sd, se, sh) p0 p1).2.2.2.1, fa, (x_gets kd lo hi nd so fr tg nr.toNatClampNeg 24 (vl, (clr gn nr.toNatClampNeg), (0 : Int32), ma, sv, sd, se, sh) p0 p1).2.2.2.2.1, (x_gets kd lo hi nd so fr tg nr.toNatClampNeg 24 (vl, (clr gn nr.toNatClampNeg), (0 : Int32), ma, sv, sd, se, sh) p0 p1).2.2.2.2.2.1, (x_gets kd lo hi nd so fr tg nr.toNatClampNeg 24 (vl, (clr gn nr.toNatClampNeg), (0 : Int32), ma, sv, sd, se, sh) p0 p1).2.2.2.2.2.2.1, (x_gets kd lo hi nd so fr tg nr.toNatClampNeg 24 (vl, (clr gn nr.toNatClampNeg), (0 : Int32), ma, sv, sd, se, sh) p0 p1).2.2.2.2.2.2.2), rfl, rfl, by rw [ht]; exact hP, va_K.moved hW.alike hK, hD⟩, hS.F ht⟩) hS.2.2 dX2_movesWhenGiven_42
theorem x_mwg_eq (kd : Nat → Int32) (lo : Nat → Int64) (hi : Nat → Int64) (vl : Nat → Int64) (nd : Int32) (so : Nat → Int32) (fr : Nat → Int32) (tg : Nat → Int32) (gn : Nat → Int32) (nr : Int32) (mo : Int32) (ma : Int32) (fa : Int32) (sv : Nat → Int64) (sd : Nat → Int32) (se : Int32) (sh : Int32) (p0 : Int32) (p1 : Int64) : x_movesWhenGiven kd lo hi vl nd so fr tg gn nr mo ma fa sv sd se sh p0 p1 = ((x_gets kd lo hi nd so fr tg nr.toNatClampNeg 24 (vl, (clr gn nr.toNatClampNeg), (0 : Int32), ma, sv, sd, se, sh) p0 p1).2.2.1, kd, lo, hi, (x_gets kd lo hi nd so fr tg nr.toNatClampNeg 24 (vl, (clr gn nr.toNatClampNeg), (0 : Int32), ma, sv, sd, se, sh) p0 p1).1, nd, so, fr, tg, (x_gets kd lo hi nd so fr tg nr.toNatClampNeg 24 (vl, (clr gn nr.toNatClampNeg), (0 : Int32), ma, sv, sd, se, sh) p0 p1).2.1, nr, (x_gets kd lo hi nd so fr tg nr.toNatClampNeg 24 (vl, (clr gn nr.toNatClampNeg), (0 : Int32), ma, sv, sd, se, sh) p0 p1).2.2.1, (x_gets kd lo hi nd so fr tg nr.toNatClampNeg 24 (vl, (clr gn nr.toNatClampNeg), (0 : Int32), ma, sv, sd, se, sh) p0 p1).2.2.2.1, fa, (x_gets kd lo hi nd so fr tg nr.toNatClampNeg 24 (vl, (clr gn nr.toNatClampNeg), (0 : Int32), ma, sv, sd, se, sh) p0 p1).2.2.2.2.1, (x_gets kd lo hi nd so fr tg nr.toNatClampNeg 24 (vl, (clr gn nr.toNatClampNeg), (0 : Int32), ma, sv, sd, se, sh) p0 p1).2.2.2.2.2.1, (x_gets kd lo hi nd so fr tg nr.toNatClampNeg 24 (vl, (clr gn nr.toNatClampNeg), (0 : Int32), ma, sv, sd, se, sh) p0 p1).2.2.2.2.2.2.1, (x_gets kd lo hi nd so fr tg nr.toNatClampNeg 24 (vl, (clr gn nr.toNatClampNeg), (0 : Int32), ma, sv, sd, se, sh) p0 p1).2.2.2.2.2.2.2) := by
  rfl
end
section
theorem in_fs {kd : Nat → Int32} {nd d : Int32} {v : Int64} (hn : nd ≤ 16) (h : x_faultOfSet kd nd d v = 0) : vp_in d 16 := by
  unfold x_faultOfSet at h
  by_cases h1 : x_isDial nd d = 0
  · rw [if_pos h1] at h
    exact absurd h (by decide)
  · exact in_d hn h1
theorem in_ft {kd : Nat → Int32} {nd d : Int32} {v : Int32} (hn : nd ≤ 16) (h : x_faultOfTurn kd nd d v = 0) : vp_in d 16 := by
  unfold x_faultOfTurn at h
  by_cases h1 : x_isDial nd d = 0
  · rw [if_pos h1] at h
    exact absurd h (by decide)
  · exact in_d hn h1
theorem in_fk {kd : Nat → Int32} {nd d e v : Int32} (hn : nd ≤ 16) (h : x_faultOfTake kd nd d e v = 0) : vp_in d 16 ∧ vp_in e 16 := by
  unfold x_faultOfTake at h
  by_cases h1 : x_isDial nd d = 0
  · rw [if_pos h1] at h
    exact absurd h (by decide)
  · rw [if_neg h1] at h
    by_cases h2 : x_isDial nd e = 0
    · rw [if_pos h2] at h
      exact absurd h (by decide)
    · exact ⟨in_d hn h1, in_d hn h2⟩
theorem in_fo {kd : Nat → Int32} {nd d e : Int32} (hn : nd ≤ 16) (h : x_faultOfOrder kd nd d e = 0) : vp_in d 16 ∧ vp_in e 16 := by
  unfold x_faultOfOrder at h
  by_cases h1 : x_isDial nd d = 0
  · rw [if_pos h1] at h
    exact absurd h (by decide)
  · rw [if_neg h1] at h
    by_cases h2 : x_isDial nd e = 0
    · rw [if_pos h2] at h
      exact absurd h (by decide)
    · exact ⟨in_d hn h1, in_d hn h2⟩
theorem in_fd {nd k : Int32} {x y : Int64} (h0 : 0 ≤ nd) (h : x_faultOfDial nd k x y = 0) : vp_in nd 16 := by
  have hl : nd < 16 := by
    unfold x_faultOfDial at h
    by_cases h1 : k < 0
    · rw [if_pos h1] at h
      exact absurd h (by decide)
    · rw [if_neg h1] at h
      by_cases h2 : k ≤ 3
      · rw [if_pos h2] at h
        by_cases h3 : nd < 16
        · exact h3
        · rw [if_neg h3] at h
          exact absurd h (by decide)
      · rw [if_neg h2] at h
        exact absurd h (by decide)
  rw [vp_in_iff]
  rw [Int32.le_iff_toInt_le] at h0
  rw [Int32.lt_iff_toInt_lt] at hl
  have e0 : (0 : Int32).toInt = 0 := by decide
  have e16 : (16 : Int32).toInt = 16 := by decide
  omega
theorem in_fr {kd : Nat → Int32} {nd nr x y z : Int32} (h0 : 0 ≤ nr) (h : x_faultOfRod kd nd nr x y z = 0) : vp_in nr 24 := by
  have hl : nr < 24 := by
    unfold x_faultOfRod at h
    by_cases h1 : x_isSort x = 0
    · rw [if_pos h1] at h
      exact absurd h (by decide)
    · rw [if_neg h1] at h
      by_cases h2 : x_isDial nd y = 0
      · rw [if_pos h2] at h
        exact absurd h (by decide)
      · rw [if_neg h2] at h
        by_cases h3 : x_isDial nd z = 0
        · rw [if_pos h3] at h
          exact absurd h (by decide)
        · rw [if_neg h3] at h
          by_cases h4 : x_faultOfPair kd x y z = 0
          · rw [if_pos h4] at h
            by_cases h5 : nr < 24
            · exact h5
            · rw [if_neg h5] at h
              exact absurd h (by decide)
          · rw [if_neg h4] at h
            exact absurd h h4
  rw [vp_in_iff]
  rw [Int32.le_iff_toInt_le] at h0
  rw [Int32.lt_iff_toInt_lt] at hl
  have e0 : (0 : Int32).toInt = 0 := by decide
  have e24 : (24 : Int32).toInt = 24 := by decide
  omega
def x_set (kd : Nat → Int32) (lo : Nat → Int64) (hi : Nat → Int64) (vl : Nat → Int64) (nd : Int32) (so : Nat → Int32) (fr : Nat → Int32) (tg : Nat → Int32) (gn : Nat → Int32) (nr : Int32) (mo : Int32) (ma : Int32) (fa : Int32) (sv : Nat → Int64) (sd : Nat → Int32) (se : Int32) (sh : Int32) (p0 : Int32) (p1 : Int64) : Int32 × XS :=
  if (x_faultOfSet kd nd p0 p1) = 0 then ((x_gets kd lo hi nd so fr tg nr.toNatClampNeg 24 (vl, (clr gn nr.toNatClampNeg), (0 : Int32), ma, sv, sd, se, sh) p0 p1).2.2.1, kd, lo, hi, (x_gets kd lo hi nd so fr tg nr.toNatClampNeg 24 (vl, (clr gn nr.toNatClampNeg), (0 : Int32), ma, sv, sd, se, sh) p0 p1).1, nd, so, fr, tg, (x_gets kd lo hi nd so fr tg nr.toNatClampNeg 24 (vl, (clr gn nr.toNatClampNeg), (0 : Int32), ma, sv, sd, se, sh) p0 p1).2.1, nr, (x_gets kd lo hi nd so fr tg nr.toNatClampNeg 24 (vl, (clr gn nr.toNatClampNeg), (0 : Int32), ma, sv, sd, se, sh) p0 p1).2.2.1, (x_gets kd lo hi nd so fr tg nr.toNatClampNeg 24 (vl, (clr gn nr.toNatClampNeg), (0 : Int32), ma, sv, sd, se, sh) p0 p1).2.2.2.1, (x_faultOfSet kd nd p0 p1), (x_gets kd lo hi nd so fr tg nr.toNatClampNeg 24 (vl, (clr gn nr.toNatClampNeg), (0 : Int32), ma, sv, sd, se, sh) p0 p1).2.2.2.2.1, (x_gets kd lo hi nd so fr tg nr.toNatClampNeg 24 (vl, (clr gn nr.toNatClampNeg), (0 : Int32), ma, sv, sd, se, sh) p0 p1).2.2.2.2.2.1, (x_gets kd lo hi nd so fr tg nr.toNatClampNeg 24 (vl, (clr gn nr.toNatClampNeg), (0 : Int32), ma, sv, sd, se, sh) p0 p1).2.2.2.2.2.2.1, (x_gets kd lo hi nd so fr tg nr.toNatClampNeg 24 (vl, (clr gn nr.toNatClampNeg), (0 : Int32), ma, sv, sd, se, sh) p0 p1).2.2.2.2.2.2.2)
  else ((-1 : Int32), kd, lo, hi, vl, nd, so, fr, tg, gn, nr, mo, ma, (x_faultOfSet kd nd p0 p1), sv, sd, se, sh)
set_option maxHeartbeats 4000000 in
set_option maxRecDepth 100000 in
theorem c_X2_set (l : Launch) (dC : Nat → ClassId) (dI : Nat → Nat → Nat) (cI cJ cZ : ClassId) (a : Nat → Nat) (kd : Nat → Int32) (lo : Nat → Int64) (hi : Nat → Int64) (vl : Nat → Int64) (nd : Int32) (so : Nat → Int32) (fr : Nat → Int32) (tg : Nat → Int32) (gn : Nat → Int32) (nr : Int32) (mo : Int32) (ma : Int32) (fa : Int32) (sv : Nat → Int64) (sd : Nat → Int32) (se : Int32) (sh : Int32) (p0 : Int32) (p1 : Int64) (hE : okE se sh) (hn : 0 ≤ nd ∧ nd ≤ 16) (hnr : 0 ≤ nr ∧ nr ≤ 24) (htg : ∀ j, vp_in (tg j) 16) (sz : Nat) : Met l yX2_set wsX2_set ({ frames := 31, cells := 0, slots := 0, locals := 819 }) (va_Pc [.ref (a 0), .int p0, .long p1] (fun U => U.heap.size = sz ∧ va_P (dC, dI) vwCl (wX cI cJ cZ a kd lo hi vl nd so fr tg gn nr mo ma fa sv sd se sh) U.heap ∧ va_K (dC, dI) vwCl (tA cI cJ cZ) U ∧ va_D (fun _ => True) (wX cI cJ cZ a kd lo hi vl nd so fr tg gn nr mo ma fa sv sd se sh))) (va_Qi (fun (r : Int32) (u : XS) => (r, u) = x_set kd lo hi vl nd so fr tg gn nr mo ma fa sv sd se sh p0 p1) (at_X dC dI cI cJ cZ (va_A (wX cI cJ cZ a kd lo hi vl nd so fr tg gn nr mo ma fa sv sd se sh) sz) a) (va_A (wX cI cJ cZ a kd lo hi vl nd so fr tg gn nr mo ma fa sv sd se sh) sz)) 0 0 (va_A (wX cI cJ cZ a kd lo hi vl nd so fr tg gn nr mo ma fa sv sd se sh) sz) := by
  refine Met.ofW (cc := cX2_set) (maxL := 4) (ret := (some .int)) (by decide) rfl ?_
  intro p e s m args below meth c s₁ B hml hv
  obtain ⟨rfl, hsz, hP, hK, hD0⟩ := hv
  subst hsz
  have hD := hD0.self (sz := s.heap.size)
  generalize hAe : va_A (wX cI cJ cZ a kd lo hi vl nd so fr tg gn nr mo ma fa sv sd se sh) s.heap.size = A at hD ⊢
  have hA : ∀ q : Nat, s.heap.size ≤ q → A q := fun q h => by rw [← hAe]; exact Or.inr h
  have hS : va_S A s.heap s.heap [] := va_S.rf
  have hP : va_P (dC, dI) vwCl (wX cI cJ cZ a kd lo hi vl nd so fr tg gn nr mo ma fa sv sd se sh) s.heap := hP
  have hx := B.exec
  have hb := B.bytes
  have hr := B.returns
  have hts := atoms_spec (ws := wsX2_set) B.pre
  have hown : s.vm.findClass RX2 = some m.cls := findClass_of_methodNamed B.named
  have hlocks := B.notSynchronized
  have h_inX2 : ∀ w ∈ wsX20, w ∈ wsX2_set := fun _ h => List.mem_cons_of_mem _ (List.mem_append_left _ (List.mem_append_right _ h))
  have k_0 := hts (.fieldLink RX2 47 "DetentCabinet" "fault" "I") (by decide +kernel)
  have hl := lv_entry ([.ref (a 0), .int p0, .long p1]) (n := 4) (Nat.le_of_ble_eq_true rfl)
  rw [lg_entry_eq]
  generalize (lg_sl ([.ref (a 0), .int p0, .long p1]) ++ List.replicate (4 - (lg_sl ([.ref (a 0), .int p0, .long p1])).length) Slot.unset).toArray = ls at hl ⊢
  have hl : lv_has ls 4 [(0, .ref (a 0)), (1, .int p0), (2, .long p1)] := hl
  refine lv_aload_n hx hb dX2_set_0 rfl (lv_at hl 0 rfl) ?_
  refine lv_aload_n hx hb dX2_set_1 rfl (lv_at hl 0 rfl) ?_
  refine lv_iload_n hx hb dX2_set_2 rfl (lv_at hl 1 rfl) ?_
  refine lv_lload_n hx hb dX2_set_3 rfl (lv_at hl 2 rfl) ?_
  refine cs_i (W.runV (As := [.int p0, .long p1]) (rest := [.ref (a 0)]) ⟨hx, hb, hml, hown, hts⟩ (c_X2_faultOfSet l dC dI cI cJ cZ a kd lo hi vl nd so fr tg gn nr mo ma fa sv sd se sh p0 p1 hn.2) (cwV 2 hts gX2_set_X2_faultOfSet rfl rfl rfl (by decide +kernel) ⟨Nat.le_of_ble_eq_true rfl, Nat.le_of_ble_eq_true rfl⟩) (fb_v hK hP (va_recv hK hP (ci := 1) (q0 := 0) rfl rfl)) rfl rfl hl.1 rfl (lv_room (Nat.le_of_ble_eq_true rfl)) dX2_set_4 ⟨Nat.zero_le _, Nat.zero_le _⟩) ?_
  refine va_put (D := (dC, dI)) (ci := 1) (v := .int (x_faultOfSet kd nd p0 p1)) (ty := .int) (C := RX2) (T := TX2) (N := 14) hx hb hts h_inX2 tyX2 tyX2_ok nmX2 hown hK hP hD hS 0 rfl rfl 13 (by decide) k_0 (fun _ h9 => h9) rfl (by decide +kernel) rfl rfl (Nat.le_of_ble_eq_true rfl) dX2_set_7 (fun H locs hP hD hS => ?_)
  have hP : va_P (dC, dI) vwCl (wX cI cJ cZ a kd lo hi vl nd so fr tg gn nr mo ma (x_faultOfSet kd nd p0 p1) sv sd se sh) H := hP
  have hD : va_D A (wX cI cJ cZ a kd lo hi vl nd so fr tg gn nr mo ma (x_faultOfSet kd nd p0 p1) sv sd se sh) := hD
  refine lv_aload_n hx hb dX2_set_10 rfl (lv_at hl 0 rfl) ?_
  refine va_get (D := (dC, dI)) (ci := 1) (v := .int (x_faultOfSet kd nd p0 p1)) (C := RX2) (T := TX2) (N := 14) hx hb hts h_inX2 hown hK hP 0 rfl rfl 13 (by decide) k_0 (fun _ h9 => h9) rfl dX2_set_11 ?_
  refine lv_if_eq (tgt := 19) hx hb dX2_set_14 (by decide) (fun c_1 => ?_) (fun c_1 => ?_)
  · skip
    refine lv_aload_n hx hb dX2_set_19 rfl (lv_at hl 0 rfl) ?_
    refine lv_iload_n hx hb dX2_set_20 rfl (lv_at hl 1 rfl) ?_
    refine lv_lload_n hx hb dX2_set_21 rfl (lv_at hl 2 rfl) ?_
    have hFc := va_free (wc := (wX cI cJ cZ a kd lo hi vl nd so fr tg gn nr mo ma (x_faultOfSet kd nd p0 p1) sv sd se sh)) hD hS hA [0, 1, 2, 3, 4, 5, 6, 7, 8, 9, 10, 11] rfl
    refine va_calli (va_runV (As := [.int p0, .long p1]) (rest := []) ⟨hx, hb, hml, hown, hts⟩ (c_X2_movesWhenGiven l dC dI cI cJ cZ a kd lo hi vl nd so fr tg gn nr mo ma (x_faultOfSet kd nd p0 p1) sv sd se sh p0 p1 hE hn hnr htg (in_fs hn.2 (by assumption)) H.size) (cwV 2 hts gX2_set_X2_movesWhenGiven rfl rfl rfl (by decide +kernel) ⟨Nat.le_of_ble_eq_true rfl, Nat.le_of_ble_eq_true rfl⟩) (fb_m hK hP hD (va_recv hK hP (ci := 1) (q0 := 0) rfl rfl)) rfl rfl hl.1 rfl (lv_room (Nat.le_of_ble_eq_true rfl)) dX2_set_22 ⟨Nat.zero_le _, Nat.zero_le _⟩) hS (fun q _ h => hFc q h) hFc (fun r_2 u t H1 locs ht hvm hw_2 hB hz1 hk1 hS => ?_)
    obtain ⟨kd_2, lo_2, hi_2, vl_2, nd_2, so_2, fr_2, tg_2, gn_2, nr_2, mo_2, ma_2, fa_2, sv_2, sd_2, se_2, sh_2⟩ := u
    rw [x_mwg_eq] at hw_2
    have hw_2 := hw_2.symm
    simp only [Prod.mk.injEq] at hw_2
    obtain ⟨rfl, rfl, rfl, rfl, rfl, rfl, rfl, rfl, rfl, rfl, rfl, rfl, rfl, rfl, rfl, rfl, rfl, rfl⟩ := hw_2
    obtain ⟨hP1, hK1, hD1⟩ := hB
    rw [ht] at hP1
    obtain ⟨hP, hD⟩ := va_join (wr := []) (w1 := (wX cI cJ cZ a kd lo hi ((x_gets kd lo hi nd so fr tg nr.toNatClampNeg 24 (vl, (clr gn nr.toNatClampNeg), (0 : Int32), ma, sv, sd, se, sh) p0 p1).1) nd so fr tg ((x_gets kd lo hi nd so fr tg nr.toNatClampNeg 24 (vl, (clr gn nr.toNatClampNeg), (0 : Int32), ma, sv, sd, se, sh) p0 p1).2.1) nr ((x_gets kd lo hi nd so fr tg nr.toNatClampNeg 24 (vl, (clr gn nr.toNatClampNeg), (0 : Int32), ma, sv, sd, se, sh) p0 p1).2.2.1) ((x_gets kd lo hi nd so fr tg nr.toNatClampNeg 24 (vl, (clr gn nr.toNatClampNeg), (0 : Int32), ma, sv, sd, se, sh) p0 p1).2.2.2.1) (x_faultOfSet kd nd p0 p1) ((x_gets kd lo hi nd so fr tg nr.toNatClampNeg 24 (vl, (clr gn nr.toNatClampNeg), (0 : Int32), ma, sv, sd, se, sh) p0 p1).2.2.2.2.1) ((x_gets kd lo hi nd so fr tg nr.toNatClampNeg 24 (vl, (clr gn nr.toNatClampNeg), (0 : Int32), ma, sv, sd, se, sh) p0 p1).2.2.2.2.2.1) ((x_gets kd lo hi nd so fr tg nr.toNatClampNeg 24 (vl, (clr gn nr.toNatClampNeg), (0 : Int32), ma, sv, sd, se, sh) p0 p1).2.2.2.2.2.2.1) ((x_gets kd lo hi nd so fr tg nr.toNatClampNeg 24 (vl, (clr gn nr.toNatClampNeg), (0 : Int32), ma, sv, sd, se, sh) p0 p1).2.2.2.2.2.2.2))) hP hD [0, 1, 2, 3, 4, 5, 6, 7, 8, 9, 10, 11] [] rfl rfl (by decide) (by decide) hk1 hFc hP1 hD1
    generalize H1 = H at hP hS ⊢
    have hP : va_P (dC, dI) vwCl (wX cI cJ cZ a kd lo hi ((x_gets kd lo hi nd so fr tg nr.toNatClampNeg 24 (vl, (clr gn nr.toNatClampNeg), (0 : Int32), ma, sv, sd, se, sh) p0 p1).1) nd so fr tg ((x_gets kd lo hi nd so fr tg nr.toNatClampNeg 24 (vl, (clr gn nr.toNatClampNeg), (0 : Int32), ma, sv, sd, se, sh) p0 p1).2.1) nr ((x_gets kd lo hi nd so fr tg nr.toNatClampNeg 24 (vl, (clr gn nr.toNatClampNeg), (0 : Int32), ma, sv, sd, se, sh) p0 p1).2.2.1) ((x_gets kd lo hi nd so fr tg nr.toNatClampNeg 24 (vl, (clr gn nr.toNatClampNeg), (0 : Int32), ma, sv, sd, se, sh) p0 p1).2.2.2.1) (x_faultOfSet kd nd p0 p1) ((x_gets kd lo hi nd so fr tg nr.toNatClampNeg 24 (vl, (clr gn nr.toNatClampNeg), (0 : Int32), ma, sv, sd, se, sh) p0 p1).2.2.2.2.1) ((x_gets kd lo hi nd so fr tg nr.toNatClampNeg 24 (vl, (clr gn nr.toNatClampNeg), (0 : Int32), ma, sv, sd, se, sh) p0 p1).2.2.2.2.2.1) ((x_gets kd lo hi nd so fr tg nr.toNatClampNeg 24 (vl, (clr gn nr.toNatClampNeg), (0 : Int32), ma, sv, sd, se, sh) p0 p1).2.2.2.2.2.2.1) ((x_gets kd lo hi nd so fr tg nr.toNatClampNeg 24 (vl, (clr gn nr.toNatClampNeg), (0 : Int32), ma, sv, sd, se, sh) p0 p1).2.2.2.2.2.2.2)) H := hP
    have hD : va_D A (wX cI cJ cZ a kd lo hi ((x_gets kd lo hi nd so fr tg nr.toNatClampNeg 24 (vl, (clr gn nr.toNatClampNeg), (0 : Int32), ma, sv, sd, se, sh) p0 p1).1) nd so fr tg ((x_gets kd lo hi nd so fr tg nr.toNatClampNeg 24 (vl, (clr gn nr.toNatClampNeg), (0 : Int32), ma, sv, sd, se, sh) p0 p1).2.1) nr ((x_gets kd lo hi nd so fr tg nr.toNatClampNeg 24 (vl, (clr gn nr.toNatClampNeg), (0 : Int32), ma, sv, sd, se, sh) p0 p1).2.2.1) ((x_gets kd lo hi nd so fr tg nr.toNatClampNeg 24 (vl, (clr gn nr.toNatClampNeg), (0 : Int32), ma, sv, sd, se, sh) p0 p1).2.2.2.1) (x_faultOfSet kd nd p0 p1) ((x_gets kd lo hi nd so fr tg nr.toNatClampNeg 24 (vl, (clr gn nr.toNatClampNeg), (0 : Int32), ma, sv, sd, se, sh) p0 p1).2.2.2.2.1) ((x_gets kd lo hi nd so fr tg nr.toNatClampNeg 24 (vl, (clr gn nr.toNatClampNeg), (0 : Int32), ma, sv, sd, se, sh) p0 p1).2.2.2.2.2.1) ((x_gets kd lo hi nd so fr tg nr.toNatClampNeg 24 (vl, (clr gn nr.toNatClampNeg), (0 : Int32), ma, sv, sd, se, sh) p0 p1).2.2.2.2.2.2.1) ((x_gets kd lo hi nd so fr tg nr.toNatClampNeg 24 (vl, (clr gn nr.toNatClampNeg), (0 : Int32), ma, sv, sd, se, sh) p0 p1).2.2.2.2.2.2.2)) := hD
    exact W.iret (v := (x_gets kd lo hi nd so fr tg nr.toNatClampNeg 24 (vl, (clr gn nr.toNatClampNeg), (0 : Int32), ma, sv, sd, se, sh) p0 p1).2.2.1) hx hb hr (fun t ht hW => ⟨⟨(x_gets kd lo hi nd so fr tg nr.toNatClampNeg 24 (vl, (clr gn nr.toNatClampNeg), (0 : Int32), ma, sv, sd, se, sh) p0 p1).2.2.1, (kd, lo, hi, (x_gets kd lo hi nd so fr tg nr.toNatClampNeg 24 (vl, (clr gn nr.toNatClampNeg), (0 : Int32), ma, sv, sd, se, sh) p0 p1).1, nd, so, fr, tg, (x_gets kd lo hi nd so fr tg nr.toNatClampNeg 24 (vl, (clr gn nr.toNatClampNeg), (0 : Int32), ma, sv, sd, se, sh) p0 p1).2.1, nr, (x_gets kd lo hi nd so fr tg nr.toNatClampNeg 24 (vl, (clr gn nr.toNatClampNeg), (0 : Int32), ma, sv, sd, se, sh) p0 p1).2.2.1, (x_gets kd lo hi nd so fr tg nr.toNatClampNeg 24 (vl, (clr gn nr.toNatClampNeg), (0 : Int32), ma, sv, sd, se, sh) p0 p1).2.2.2.1, (x_faultOfSet kd nd p0 p1), (x_gets kd lo hi nd so fr tg nr.toNatClampNeg 24 (vl, (clr gn nr.toNatClampNeg), (0 : Int32), ma, sv, sd, se, sh) p0 p1).2.2.2.2.1, (x_gets kd lo hi nd so fr tg nr.toNatClampNeg 24 (vl, (clr gn nr.toNatClampNeg), (0 : Int32), ma, sv, sd, se, sh) p0 p1).2.2.2.2.2.1, (x_gets kd lo hi nd so fr tg nr.toNatClampNeg 24 (vl, (clr gn nr.toNatClampNeg), (0 : Int32), ma, sv, sd, se, sh) p0 p1).2.2.2.2.2.2.1, (x_gets kd lo hi nd so fr tg nr.toNatClampNeg 24 (vl, (clr gn nr.toNatClampNeg), (0 : Int32), ma, sv, sd, se, sh) p0 p1).2.2.2.2.2.2.2), rfl, (by unfold x_set; rw [if_pos c_1]), by rw [ht]; exact hP, va_K.moved hW.alike hK, hD⟩, hS.F ht⟩) hS.2.2 dX2_set_25
  · skip
    refine lv_iconst (v := (-1)) hx hb dX2_set_17 (by decide) ?_
    exact W.iret (v := (-1 : Int32)) hx hb hr (fun t ht hW => ⟨⟨(-1 : Int32), (kd, lo, hi, vl, nd, so, fr, tg, gn, nr, mo, ma, (x_faultOfSet kd nd p0 p1), sv, sd, se, sh), rfl, (by unfold x_set; rw [if_neg c_1]), by rw [ht]; exact hP, va_K.moved hW.alike hK, hD⟩, hS.F ht⟩) hS.2.2 dX2_set_18
def x_turn (kd : Nat → Int32) (lo : Nat → Int64) (hi : Nat → Int64) (vl : Nat → Int64) (nd : Int32) (so : Nat → Int32) (fr : Nat → Int32) (tg : Nat → Int32) (gn : Nat → Int32) (nr : Int32) (mo : Int32) (ma : Int32) (fa : Int32) (sv : Nat → Int64) (sd : Nat → Int32) (se : Int32) (sh : Int32) (p0 : Int32) (p1 : Int32) : Int32 × XS :=
  if (x_faultOfTurn kd nd p0 p1) = 0 then ((x_gets kd lo hi nd so fr tg nr.toNatClampNeg 24 (vl, (clr gn nr.toNatClampNeg), (0 : Int32), ma, sv, sd, se, sh) p0 (n_turned (kd p0.toNatClampNeg) (vl p0.toNatClampNeg) p1)).2.2.1, kd, lo, hi, (x_gets kd lo hi nd so fr tg nr.toNatClampNeg 24 (vl, (clr gn nr.toNatClampNeg), (0 : Int32), ma, sv, sd, se, sh) p0 (n_turned (kd p0.toNatClampNeg) (vl p0.toNatClampNeg) p1)).1, nd, so, fr, tg, (x_gets kd lo hi nd so fr tg nr.toNatClampNeg 24 (vl, (clr gn nr.toNatClampNeg), (0 : Int32), ma, sv, sd, se, sh) p0 (n_turned (kd p0.toNatClampNeg) (vl p0.toNatClampNeg) p1)).2.1, nr, (x_gets kd lo hi nd so fr tg nr.toNatClampNeg 24 (vl, (clr gn nr.toNatClampNeg), (0 : Int32), ma, sv, sd, se, sh) p0 (n_turned (kd p0.toNatClampNeg) (vl p0.toNatClampNeg) p1)).2.2.1, (x_gets kd lo hi nd so fr tg nr.toNatClampNeg 24 (vl, (clr gn nr.toNatClampNeg), (0 : Int32), ma, sv, sd, se, sh) p0 (n_turned (kd p0.toNatClampNeg) (vl p0.toNatClampNeg) p1)).2.2.2.1, (x_faultOfTurn kd nd p0 p1), (x_gets kd lo hi nd so fr tg nr.toNatClampNeg 24 (vl, (clr gn nr.toNatClampNeg), (0 : Int32), ma, sv, sd, se, sh) p0 (n_turned (kd p0.toNatClampNeg) (vl p0.toNatClampNeg) p1)).2.2.2.2.1, (x_gets kd lo hi nd so fr tg nr.toNatClampNeg 24 (vl, (clr gn nr.toNatClampNeg), (0 : Int32), ma, sv, sd, se, sh) p0 (n_turned (kd p0.toNatClampNeg) (vl p0.toNatClampNeg) p1)).2.2.2.2.2.1, (x_gets kd lo hi nd so fr tg nr.toNatClampNeg 24 (vl, (clr gn nr.toNatClampNeg), (0 : Int32), ma, sv, sd, se, sh) p0 (n_turned (kd p0.toNatClampNeg) (vl p0.toNatClampNeg) p1)).2.2.2.2.2.2.1, (x_gets kd lo hi nd so fr tg nr.toNatClampNeg 24 (vl, (clr gn nr.toNatClampNeg), (0 : Int32), ma, sv, sd, se, sh) p0 (n_turned (kd p0.toNatClampNeg) (vl p0.toNatClampNeg) p1)).2.2.2.2.2.2.2)
  else ((-1 : Int32), kd, lo, hi, vl, nd, so, fr, tg, gn, nr, mo, ma, (x_faultOfTurn kd nd p0 p1), sv, sd, se, sh)
set_option maxHeartbeats 4000000 in
set_option maxRecDepth 100000 in
theorem c_X2_turn (l : Launch) (dC : Nat → ClassId) (dI : Nat → Nat → Nat) (cI cJ cZ : ClassId) (a : Nat → Nat) (kd : Nat → Int32) (lo : Nat → Int64) (hi : Nat → Int64) (vl : Nat → Int64) (nd : Int32) (so : Nat → Int32) (fr : Nat → Int32) (tg : Nat → Int32) (gn : Nat → Int32) (nr : Int32) (mo : Int32) (ma : Int32) (fa : Int32) (sv : Nat → Int64) (sd : Nat → Int32) (se : Int32) (sh : Int32) (p0 : Int32) (p1 : Int32) (hE : okE se sh) (hn : 0 ≤ nd ∧ nd ≤ 16) (hnr : 0 ≤ nr ∧ nr ≤ 24) (htg : ∀ j, vp_in (tg j) 16) (sz : Nat) : Met l yX2_turn wsX2_turn ({ frames := 31, cells := 0, slots := 0, locals := 819 }) (va_Pc [.ref (a 0), .int p0, .int p1] (fun U => U.heap.size = sz ∧ va_P (dC, dI) vwCl (wX cI cJ cZ a kd lo hi vl nd so fr tg gn nr mo ma fa sv sd se sh) U.heap ∧ va_K (dC, dI) vwCl (tA cI cJ cZ) U ∧ va_D (fun _ => True) (wX cI cJ cZ a kd lo hi vl nd so fr tg gn nr mo ma fa sv sd se sh))) (va_Qi (fun (r : Int32) (u : XS) => (r, u) = x_turn kd lo hi vl nd so fr tg gn nr mo ma fa sv sd se sh p0 p1) (at_X dC dI cI cJ cZ (va_A (wX cI cJ cZ a kd lo hi vl nd so fr tg gn nr mo ma fa sv sd se sh) sz) a) (va_A (wX cI cJ cZ a kd lo hi vl nd so fr tg gn nr mo ma fa sv sd se sh) sz)) 0 0 (va_A (wX cI cJ cZ a kd lo hi vl nd so fr tg gn nr mo ma fa sv sd se sh) sz) := by
  refine Met.ofW (cc := cX2_turn) (maxL := 3) (ret := (some .int)) (by decide) rfl ?_
  intro p e s m args below meth c s₁ B hml hv
  obtain ⟨rfl, hsz, hP, hK, hD0⟩ := hv
  subst hsz
  have hD := hD0.self (sz := s.heap.size)
  generalize hAe : va_A (wX cI cJ cZ a kd lo hi vl nd so fr tg gn nr mo ma fa sv sd se sh) s.heap.size = A at hD ⊢
  have hA : ∀ q : Nat, s.heap.size ≤ q → A q := fun q h => by rw [← hAe]; exact Or.inr h
  have hS : va_S A s.heap s.heap [] := va_S.rf
  have hP : va_P (dC, dI) vwCl (wX cI cJ cZ a kd lo hi vl nd so fr tg gn nr mo ma fa sv sd se sh) s.heap := hP
  have hx := B.exec
  have hb := B.bytes
  have hr := B.returns
  have hts := atoms_spec (ws := wsX2_turn) B.pre
  have hown : s.vm.findClass RX2 = some m.cls := findClass_of_methodNamed B.named
  have hlocks := B.notSynchronized
  have h_inX2 : ∀ w ∈ wsX20, w ∈ wsX2_turn := fun _ h => List.mem_cons_of_mem _ (List.mem_append_left _ (List.mem_append_right _ h))
  have k_0 := hts (.fieldLink RX2 47 "DetentCabinet" "fault" "I") (by decide +kernel)
  have k_1 := hts (.fieldLink RX2 9 "DetentCabinet" "kinds" "[I") (by decide +kernel)
  have k_2 := hts (.fieldLink RX2 20 "DetentCabinet" "values" "[J") (by decide +kernel)
  have hl := lv_entry ([.ref (a 0), .int p0, .int p1]) (n := 3) (Nat.le_of_ble_eq_true rfl)
  rw [lg_entry_eq]
  generalize (lg_sl ([.ref (a 0), .int p0, .int p1]) ++ List.replicate (3 - (lg_sl ([.ref (a 0), .int p0, .int p1])).length) Slot.unset).toArray = ls at hl ⊢
  have hl : lv_has ls 3 [(0, .ref (a 0)), (1, .int p0), (2, .int p1)] := hl
  refine lv_aload_n hx hb dX2_turn_0 rfl (lv_at hl 0 rfl) ?_
  refine lv_aload_n hx hb dX2_turn_1 rfl (lv_at hl 0 rfl) ?_
  refine lv_iload_n hx hb dX2_turn_2 rfl (lv_at hl 1 rfl) ?_
  refine lv_iload_n hx hb dX2_turn_3 rfl (lv_at hl 2 rfl) ?_
  refine cs_i (W.runV (As := [.int p0, .int p1]) (rest := [.ref (a 0)]) ⟨hx, hb, hml, hown, hts⟩ (c_X2_faultOfTurn l dC dI cI cJ cZ a kd lo hi vl nd so fr tg gn nr mo ma fa sv sd se sh p0 p1 hn.2) (cwV 2 hts gX2_turn_X2_faultOfTurn rfl rfl rfl (by decide +kernel) ⟨Nat.le_of_ble_eq_true rfl, Nat.le_of_ble_eq_true rfl⟩) (fb_v hK hP (va_recv hK hP (ci := 1) (q0 := 0) rfl rfl)) rfl rfl hl.1 rfl (lv_room (Nat.le_of_ble_eq_true rfl)) dX2_turn_4 ⟨Nat.zero_le _, Nat.zero_le _⟩) ?_
  refine va_put (D := (dC, dI)) (ci := 1) (v := .int (x_faultOfTurn kd nd p0 p1)) (ty := .int) (C := RX2) (T := TX2) (N := 14) hx hb hts h_inX2 tyX2 tyX2_ok nmX2 hown hK hP hD hS 0 rfl rfl 13 (by decide) k_0 (fun _ h9 => h9) rfl (by decide +kernel) rfl rfl (Nat.le_of_ble_eq_true rfl) dX2_turn_7 (fun H locs hP hD hS => ?_)
  have hP : va_P (dC, dI) vwCl (wX cI cJ cZ a kd lo hi vl nd so fr tg gn nr mo ma (x_faultOfTurn kd nd p0 p1) sv sd se sh) H := hP
  have hD : va_D A (wX cI cJ cZ a kd lo hi vl nd so fr tg gn nr mo ma (x_faultOfTurn kd nd p0 p1) sv sd se sh) := hD
  refine lv_aload_n hx hb dX2_turn_10 rfl (lv_at hl 0 rfl) ?_
  refine va_get (D := (dC, dI)) (ci := 1) (v := .int (x_faultOfTurn kd nd p0 p1)) (C := RX2) (T := TX2) (N := 14) hx hb hts h_inX2 hown hK hP 0 rfl rfl 13 (by decide) k_0 (fun _ h9 => h9) rfl dX2_turn_11 ?_
  refine lv_if_eq (tgt := 19) hx hb dX2_turn_14 (by decide) (fun c_1 => ?_) (fun c_1 => ?_)
  · skip
    refine lv_aload_n hx hb dX2_turn_19 rfl (lv_at hl 0 rfl) ?_
    refine lv_iload_n hx hb dX2_turn_20 rfl (lv_at hl 1 rfl) ?_
    refine lv_aload_n hx hb dX2_turn_21 rfl (lv_at hl 0 rfl) ?_
    refine va_get (D := (dC, dI)) (ci := 1) (v := .ref (a 1)) (C := RX2) (T := TX2) (N := 14) hx hb hts h_inX2 hown hK hP 0 rfl rfl 0 (by decide) k_1 (fun _ h9 => h9) rfl dX2_turn_22 ?_
    refine lv_iload_n hx hb dX2_turn_25 rfl (lv_at hl 1 rfl) ?_
    refine va_iald hx hb hK hP 1 0 rfl rfl (in_ft hn.2 (by assumption)) dX2_turn_26 ?_
    refine lv_aload_n hx hb dX2_turn_27 rfl (lv_at hl 0 rfl) ?_
    refine va_get (D := (dC, dI)) (ci := 1) (v := .ref (a 4)) (C := RX2) (T := TX2) (N := 14) hx hb hts h_inX2 hown hK hP 0 rfl rfl 3 (by decide) k_2 (fun _ h9 => h9) rfl dX2_turn_28 ?_
    refine lv_iload_n hx hb dX2_turn_31 rfl (lv_at hl 1 rfl) ?_
    refine va_lald hx hb hK hP 4 1 rfl rfl (in_ft hn.2 (by assumption)) dX2_turn_32 ?_
    refine lv_iload_n hx hb dX2_turn_33 rfl (lv_at hl 2 rfl) ?_
    refine cs_l (W.runS (As := [.int (kd p0.toNatClampNeg), .long (vl p0.toNatClampNeg), .int p1]) (rest := [.int p0, .ref (a 0)]) ⟨hx, hb, hml, hown, hts⟩ (c_X0_turned l (kd p0.toNatClampNeg) (vl p0.toNatClampNeg) p1 ) (va_cwS 3 hts gX2_turn_X0_turned rfl rfl rfl (by decide +kernel) ⟨Nat.le_of_ble_eq_true rfl, Nat.le_of_ble_eq_true rfl⟩) fb_s rfl rfl hl.1 rfl (lv_room (Nat.le_of_ble_eq_true rfl)) dX2_turn_34 ⟨Nat.zero_le _, Nat.zero_le _⟩) ?_
    have hFc := va_free (wc := (wX cI cJ cZ a kd lo hi vl nd so fr tg gn nr mo ma (x_faultOfTurn kd nd p0 p1) sv sd se sh)) hD hS hA [0, 1, 2, 3, 4, 5, 6, 7, 8, 9, 10, 11] rfl
    refine va_calli (va_runV (As := [.int p0, .long (n_turned (kd p0.toNatClampNeg) (vl p0.toNatClampNeg) p1)]) (rest := []) ⟨hx, hb, hml, hown, hts⟩ (c_X2_movesWhenGiven l dC dI cI cJ cZ a kd lo hi vl nd so fr tg gn nr mo ma (x_faultOfTurn kd nd p0 p1) sv sd se sh p0 (n_turned (kd p0.toNatClampNeg) (vl p0.toNatClampNeg) p1) hE hn hnr htg (in_ft hn.2 (by assumption)) H.size) (cwV 2 hts gX2_turn_X2_movesWhenGiven rfl rfl rfl (by decide +kernel) ⟨Nat.le_of_ble_eq_true rfl, Nat.le_of_ble_eq_true rfl⟩) (fb_m hK hP hD (va_recv hK hP (ci := 1) (q0 := 0) rfl rfl)) rfl rfl hl.1 rfl (lv_room (Nat.le_of_ble_eq_true rfl)) dX2_turn_37 ⟨Nat.zero_le _, Nat.zero_le _⟩) hS (fun q _ h => hFc q h) hFc (fun r_2 u t H1 locs ht hvm hw_2 hB hz1 hk1 hS => ?_)
    obtain ⟨kd_2, lo_2, hi_2, vl_2, nd_2, so_2, fr_2, tg_2, gn_2, nr_2, mo_2, ma_2, fa_2, sv_2, sd_2, se_2, sh_2⟩ := u
    rw [x_mwg_eq] at hw_2
    have hw_2 := hw_2.symm
    simp only [Prod.mk.injEq] at hw_2
    obtain ⟨rfl, rfl, rfl, rfl, rfl, rfl, rfl, rfl, rfl, rfl, rfl, rfl, rfl, rfl, rfl, rfl, rfl, rfl⟩ := hw_2
    obtain ⟨hP1, hK1, hD1⟩ := hB
    rw [ht] at hP1
    obtain ⟨hP, hD⟩ := va_join (wr := []) (w1 := (wX cI cJ cZ a kd lo hi ((x_gets kd lo hi nd so fr tg nr.toNatClampNeg 24 (vl, (clr gn nr.toNatClampNeg), (0 : Int32), ma, sv, sd, se, sh) p0 (n_turned (kd p0.toNatClampNeg) (vl p0.toNatClampNeg) p1)).1) nd so fr tg ((x_gets kd lo hi nd so fr tg nr.toNatClampNeg 24 (vl, (clr gn nr.toNatClampNeg), (0 : Int32), ma, sv, sd, se, sh) p0 (n_turned (kd p0.toNatClampNeg) (vl p0.toNatClampNeg) p1)).2.1) nr ((x_gets kd lo hi nd so fr tg nr.toNatClampNeg 24 (vl, (clr gn nr.toNatClampNeg), (0 : Int32), ma, sv, sd, se, sh) p0 (n_turned (kd p0.toNatClampNeg) (vl p0.toNatClampNeg) p1)).2.2.1) ((x_gets kd lo hi nd so fr tg nr.toNatClampNeg 24 (vl, (clr gn nr.toNatClampNeg), (0 : Int32), ma, sv, sd, se, sh) p0 (n_turned (kd p0.toNatClampNeg) (vl p0.toNatClampNeg) p1)).2.2.2.1) (x_faultOfTurn kd nd p0 p1) ((x_gets kd lo hi nd so fr tg nr.toNatClampNeg 24 (vl, (clr gn nr.toNatClampNeg), (0 : Int32), ma, sv, sd, se, sh) p0 (n_turned (kd p0.toNatClampNeg) (vl p0.toNatClampNeg) p1)).2.2.2.2.1) ((x_gets kd lo hi nd so fr tg nr.toNatClampNeg 24 (vl, (clr gn nr.toNatClampNeg), (0 : Int32), ma, sv, sd, se, sh) p0 (n_turned (kd p0.toNatClampNeg) (vl p0.toNatClampNeg) p1)).2.2.2.2.2.1) ((x_gets kd lo hi nd so fr tg nr.toNatClampNeg 24 (vl, (clr gn nr.toNatClampNeg), (0 : Int32), ma, sv, sd, se, sh) p0 (n_turned (kd p0.toNatClampNeg) (vl p0.toNatClampNeg) p1)).2.2.2.2.2.2.1) ((x_gets kd lo hi nd so fr tg nr.toNatClampNeg 24 (vl, (clr gn nr.toNatClampNeg), (0 : Int32), ma, sv, sd, se, sh) p0 (n_turned (kd p0.toNatClampNeg) (vl p0.toNatClampNeg) p1)).2.2.2.2.2.2.2))) hP hD [0, 1, 2, 3, 4, 5, 6, 7, 8, 9, 10, 11] [] rfl rfl (by decide) (by decide) hk1 hFc hP1 hD1
    generalize H1 = H at hP hS ⊢
    have hP : va_P (dC, dI) vwCl (wX cI cJ cZ a kd lo hi ((x_gets kd lo hi nd so fr tg nr.toNatClampNeg 24 (vl, (clr gn nr.toNatClampNeg), (0 : Int32), ma, sv, sd, se, sh) p0 (n_turned (kd p0.toNatClampNeg) (vl p0.toNatClampNeg) p1)).1) nd so fr tg ((x_gets kd lo hi nd so fr tg nr.toNatClampNeg 24 (vl, (clr gn nr.toNatClampNeg), (0 : Int32), ma, sv, sd, se, sh) p0 (n_turned (kd p0.toNatClampNeg) (vl p0.toNatClampNeg) p1)).2.1) nr ((x_gets kd lo hi nd so fr tg nr.toNatClampNeg 24 (vl, (clr gn nr.toNatClampNeg), (0 : Int32), ma, sv, sd, se, sh) p0 (n_turned (kd p0.toNatClampNeg) (vl p0.toNatClampNeg) p1)).2.2.1) ((x_gets kd lo hi nd so fr tg nr.toNatClampNeg 24 (vl, (clr gn nr.toNatClampNeg), (0 : Int32), ma, sv, sd, se, sh) p0 (n_turned (kd p0.toNatClampNeg) (vl p0.toNatClampNeg) p1)).2.2.2.1) (x_faultOfTurn kd nd p0 p1) ((x_gets kd lo hi nd so fr tg nr.toNatClampNeg 24 (vl, (clr gn nr.toNatClampNeg), (0 : Int32), ma, sv, sd, se, sh) p0 (n_turned (kd p0.toNatClampNeg) (vl p0.toNatClampNeg) p1)).2.2.2.2.1) ((x_gets kd lo hi nd so fr tg nr.toNatClampNeg 24 (vl, (clr gn nr.toNatClampNeg), (0 : Int32), ma, sv, sd, se, sh) p0 (n_turned (kd p0.toNatClampNeg) (vl p0.toNatClampNeg) p1)).2.2.2.2.2.1) ((x_gets kd lo hi nd so fr tg nr.toNatClampNeg 24 (vl, (clr gn nr.toNatClampNeg), (0 : Int32), ma, sv, sd, se, sh) p0 (n_turned (kd p0.toNatClampNeg) (vl p0.toNatClampNeg) p1)).2.2.2.2.2.2.1) ((x_gets kd lo hi nd so fr tg nr.toNatClampNeg 24 (vl, (clr gn nr.toNatClampNeg), (0 : Int32), ma, sv, sd, se, sh) p0 (n_turned (kd p0.toNatClampNeg) (vl p0.toNatClampNeg) p1)).2.2.2.2.2.2.2)) H := hP
    have hD : va_D A (wX cI cJ cZ a kd lo hi ((x_gets kd lo hi nd so fr tg nr.toNatClampNeg 24 (vl, (clr gn nr.toNatClampNeg), (0 : Int32), ma, sv, sd, se, sh) p0 (n_turned (kd p0.toNatClampNeg) (vl p0.toNatClampNeg) p1)).1) nd so fr tg ((x_gets kd lo hi nd so fr tg nr.toNatClampNeg 24 (vl, (clr gn nr.toNatClampNeg), (0 : Int32), ma, sv, sd, se, sh) p0 (n_turned (kd p0.toNatClampNeg) (vl p0.toNatClampNeg) p1)).2.1) nr ((x_gets kd lo hi nd so fr tg nr.toNatClampNeg 24 (vl, (clr gn nr.toNatClampNeg), (0 : Int32), ma, sv, sd, se, sh) p0 (n_turned (kd p0.toNatClampNeg) (vl p0.toNatClampNeg) p1)).2.2.1) ((x_gets kd lo hi nd so fr tg nr.toNatClampNeg 24 (vl, (clr gn nr.toNatClampNeg), (0 : Int32), ma, sv, sd, se, sh) p0 (n_turned (kd p0.toNatClampNeg) (vl p0.toNatClampNeg) p1)).2.2.2.1) (x_faultOfTurn kd nd p0 p1) ((x_gets kd lo hi nd so fr tg nr.toNatClampNeg 24 (vl, (clr gn nr.toNatClampNeg), (0 : Int32), ma, sv, sd, se, sh) p0 (n_turned (kd p0.toNatClampNeg) (vl p0.toNatClampNeg) p1)).2.2.2.2.1) ((x_gets kd lo hi nd so fr tg nr.toNatClampNeg 24 (vl, (clr gn nr.toNatClampNeg), (0 : Int32), ma, sv, sd, se, sh) p0 (n_turned (kd p0.toNatClampNeg) (vl p0.toNatClampNeg) p1)).2.2.2.2.2.1) ((x_gets kd lo hi nd so fr tg nr.toNatClampNeg 24 (vl, (clr gn nr.toNatClampNeg), (0 : Int32), ma, sv, sd, se, sh) p0 (n_turned (kd p0.toNatClampNeg) (vl p0.toNatClampNeg) p1)).2.2.2.2.2.2.1) ((x_gets kd lo hi nd so fr tg nr.toNatClampNeg 24 (vl, (clr gn nr.toNatClampNeg), (0 : Int32), ma, sv, sd, se, sh) p0 (n_turned (kd p0.toNatClampNeg) (vl p0.toNatClampNeg) p1)).2.2.2.2.2.2.2)) := hD
    exact W.iret (v := (x_gets kd lo hi nd so fr tg nr.toNatClampNeg 24 (vl, (clr gn nr.toNatClampNeg), (0 : Int32), ma, sv, sd, se, sh) p0 (n_turned (kd p0.toNatClampNeg) (vl p0.toNatClampNeg) p1)).2.2.1) hx hb hr (fun t ht hW => ⟨⟨(x_gets kd lo hi nd so fr tg nr.toNatClampNeg 24 (vl, (clr gn nr.toNatClampNeg), (0 : Int32), ma, sv, sd, se, sh) p0 (n_turned (kd p0.toNatClampNeg) (vl p0.toNatClampNeg) p1)).2.2.1, (kd, lo, hi, (x_gets kd lo hi nd so fr tg nr.toNatClampNeg 24 (vl, (clr gn nr.toNatClampNeg), (0 : Int32), ma, sv, sd, se, sh) p0 (n_turned (kd p0.toNatClampNeg) (vl p0.toNatClampNeg) p1)).1, nd, so, fr, tg, (x_gets kd lo hi nd so fr tg nr.toNatClampNeg 24 (vl, (clr gn nr.toNatClampNeg), (0 : Int32), ma, sv, sd, se, sh) p0 (n_turned (kd p0.toNatClampNeg) (vl p0.toNatClampNeg) p1)).2.1, nr, (x_gets kd lo hi nd so fr tg nr.toNatClampNeg 24 (vl, (clr gn nr.toNatClampNeg), (0 : Int32), ma, sv, sd, se, sh) p0 (n_turned (kd p0.toNatClampNeg) (vl p0.toNatClampNeg) p1)).2.2.1, (x_gets kd lo hi nd so fr tg nr.toNatClampNeg 24 (vl, (clr gn nr.toNatClampNeg), (0 : Int32), ma, sv, sd, se, sh) p0 (n_turned (kd p0.toNatClampNeg) (vl p0.toNatClampNeg) p1)).2.2.2.1, (x_faultOfTurn kd nd p0 p1), (x_gets kd lo hi nd so fr tg nr.toNatClampNeg 24 (vl, (clr gn nr.toNatClampNeg), (0 : Int32), ma, sv, sd, se, sh) p0 (n_turned (kd p0.toNatClampNeg) (vl p0.toNatClampNeg) p1)).2.2.2.2.1, (x_gets kd lo hi nd so fr tg nr.toNatClampNeg 24 (vl, (clr gn nr.toNatClampNeg), (0 : Int32), ma, sv, sd, se, sh) p0 (n_turned (kd p0.toNatClampNeg) (vl p0.toNatClampNeg) p1)).2.2.2.2.2.1, (x_gets kd lo hi nd so fr tg nr.toNatClampNeg 24 (vl, (clr gn nr.toNatClampNeg), (0 : Int32), ma, sv, sd, se, sh) p0 (n_turned (kd p0.toNatClampNeg) (vl p0.toNatClampNeg) p1)).2.2.2.2.2.2.1, (x_gets kd lo hi nd so fr tg nr.toNatClampNeg 24 (vl, (clr gn nr.toNatClampNeg), (0 : Int32), ma, sv, sd, se, sh) p0 (n_turned (kd p0.toNatClampNeg) (vl p0.toNatClampNeg) p1)).2.2.2.2.2.2.2), rfl, (by unfold x_turn; rw [if_pos c_1]), by rw [ht]; exact hP, va_K.moved hW.alike hK, hD⟩, hS.F ht⟩) hS.2.2 dX2_turn_40
  · skip
    refine lv_iconst (v := (-1)) hx hb dX2_turn_17 (by decide) ?_
    exact W.iret (v := (-1 : Int32)) hx hb hr (fun t ht hW => ⟨⟨(-1 : Int32), (kd, lo, hi, vl, nd, so, fr, tg, gn, nr, mo, ma, (x_faultOfTurn kd nd p0 p1), sv, sd, se, sh), rfl, (by unfold x_turn; rw [if_neg c_1]), by rw [ht]; exact hP, va_K.moved hW.alike hK, hD⟩, hS.F ht⟩) hS.2.2 dX2_turn_18
def x_take (kd : Nat → Int32) (lo : Nat → Int64) (hi : Nat → Int64) (vl : Nat → Int64) (nd : Int32) (so : Nat → Int32) (fr : Nat → Int32) (tg : Nat → Int32) (gn : Nat → Int32) (nr : Int32) (mo : Int32) (ma : Int32) (fa : Int32) (sv : Nat → Int64) (sd : Nat → Int32) (se : Int32) (sh : Int32) (p0 : Int32) (p1 : Int32) (p2 : Int32) : Int32 × XS :=
  if (x_faultOfTake kd nd p0 p1 p2) = 0 then ((x_gets kd lo hi nd so fr tg nr.toNatClampNeg 24 (vl, (clr gn nr.toNatClampNeg), (0 : Int32), ma, sv, sd, se, sh) p0 (x_gift kd vl p2 p1 p0)).2.2.1, kd, lo, hi, (x_gets kd lo hi nd so fr tg nr.toNatClampNeg 24 (vl, (clr gn nr.toNatClampNeg), (0 : Int32), ma, sv, sd, se, sh) p0 (x_gift kd vl p2 p1 p0)).1, nd, so, fr, tg, (x_gets kd lo hi nd so fr tg nr.toNatClampNeg 24 (vl, (clr gn nr.toNatClampNeg), (0 : Int32), ma, sv, sd, se, sh) p0 (x_gift kd vl p2 p1 p0)).2.1, nr, (x_gets kd lo hi nd so fr tg nr.toNatClampNeg 24 (vl, (clr gn nr.toNatClampNeg), (0 : Int32), ma, sv, sd, se, sh) p0 (x_gift kd vl p2 p1 p0)).2.2.1, (x_gets kd lo hi nd so fr tg nr.toNatClampNeg 24 (vl, (clr gn nr.toNatClampNeg), (0 : Int32), ma, sv, sd, se, sh) p0 (x_gift kd vl p2 p1 p0)).2.2.2.1, (x_faultOfTake kd nd p0 p1 p2), (x_gets kd lo hi nd so fr tg nr.toNatClampNeg 24 (vl, (clr gn nr.toNatClampNeg), (0 : Int32), ma, sv, sd, se, sh) p0 (x_gift kd vl p2 p1 p0)).2.2.2.2.1, (x_gets kd lo hi nd so fr tg nr.toNatClampNeg 24 (vl, (clr gn nr.toNatClampNeg), (0 : Int32), ma, sv, sd, se, sh) p0 (x_gift kd vl p2 p1 p0)).2.2.2.2.2.1, (x_gets kd lo hi nd so fr tg nr.toNatClampNeg 24 (vl, (clr gn nr.toNatClampNeg), (0 : Int32), ma, sv, sd, se, sh) p0 (x_gift kd vl p2 p1 p0)).2.2.2.2.2.2.1, (x_gets kd lo hi nd so fr tg nr.toNatClampNeg 24 (vl, (clr gn nr.toNatClampNeg), (0 : Int32), ma, sv, sd, se, sh) p0 (x_gift kd vl p2 p1 p0)).2.2.2.2.2.2.2)
  else ((-1 : Int32), kd, lo, hi, vl, nd, so, fr, tg, gn, nr, mo, ma, (x_faultOfTake kd nd p0 p1 p2), sv, sd, se, sh)
set_option maxHeartbeats 4000000 in
set_option maxRecDepth 100000 in
theorem c_X2_take (l : Launch) (dC : Nat → ClassId) (dI : Nat → Nat → Nat) (cI cJ cZ : ClassId) (a : Nat → Nat) (kd : Nat → Int32) (lo : Nat → Int64) (hi : Nat → Int64) (vl : Nat → Int64) (nd : Int32) (so : Nat → Int32) (fr : Nat → Int32) (tg : Nat → Int32) (gn : Nat → Int32) (nr : Int32) (mo : Int32) (ma : Int32) (fa : Int32) (sv : Nat → Int64) (sd : Nat → Int32) (se : Int32) (sh : Int32) (p0 : Int32) (p1 : Int32) (p2 : Int32) (hE : okE se sh) (hn : 0 ≤ nd ∧ nd ≤ 16) (hnr : 0 ≤ nr ∧ nr ≤ 24) (htg : ∀ j, vp_in (tg j) 16) (sz : Nat) : Met l yX2_take wsX2_take ({ frames := 31, cells := 0, slots := 0, locals := 819 }) (va_Pc [.ref (a 0), .int p0, .int p1, .int p2] (fun U => U.heap.size = sz ∧ va_P (dC, dI) vwCl (wX cI cJ cZ a kd lo hi vl nd so fr tg gn nr mo ma fa sv sd se sh) U.heap ∧ va_K (dC, dI) vwCl (tA cI cJ cZ) U ∧ va_D (fun _ => True) (wX cI cJ cZ a kd lo hi vl nd so fr tg gn nr mo ma fa sv sd se sh))) (va_Qi (fun (r : Int32) (u : XS) => (r, u) = x_take kd lo hi vl nd so fr tg gn nr mo ma fa sv sd se sh p0 p1 p2) (at_X dC dI cI cJ cZ (va_A (wX cI cJ cZ a kd lo hi vl nd so fr tg gn nr mo ma fa sv sd se sh) sz) a) (va_A (wX cI cJ cZ a kd lo hi vl nd so fr tg gn nr mo ma fa sv sd se sh) sz)) 0 0 (va_A (wX cI cJ cZ a kd lo hi vl nd so fr tg gn nr mo ma fa sv sd se sh) sz) := by
  refine Met.ofW (cc := cX2_take) (maxL := 4) (ret := (some .int)) (by decide) rfl ?_
  intro p e s m args below meth c s₁ B hml hv
  obtain ⟨rfl, hsz, hP, hK, hD0⟩ := hv
  subst hsz
  have hD := hD0.self (sz := s.heap.size)
  generalize hAe : va_A (wX cI cJ cZ a kd lo hi vl nd so fr tg gn nr mo ma fa sv sd se sh) s.heap.size = A at hD ⊢
  have hA : ∀ q : Nat, s.heap.size ≤ q → A q := fun q h => by rw [← hAe]; exact Or.inr h
  have hS : va_S A s.heap s.heap [] := va_S.rf
  have hP : va_P (dC, dI) vwCl (wX cI cJ cZ a kd lo hi vl nd so fr tg gn nr mo ma fa sv sd se sh) s.heap := hP
  have hx := B.exec
  have hb := B.bytes
  have hr := B.returns
  have hts := atoms_spec (ws := wsX2_take) B.pre
  have hown : s.vm.findClass RX2 = some m.cls := findClass_of_methodNamed B.named
  have hlocks := B.notSynchronized
  have h_inX2 : ∀ w ∈ wsX20, w ∈ wsX2_take := fun _ h => List.mem_cons_of_mem _ (List.mem_append_left _ (List.mem_append_right _ h))
  have k_0 := hts (.fieldLink RX2 47 "DetentCabinet" "fault" "I") (by decide +kernel)
  have hl := lv_entry ([.ref (a 0), .int p0, .int p1, .int p2]) (n := 4) (Nat.le_of_ble_eq_true rfl)
  rw [lg_entry_eq]
  generalize (lg_sl ([.ref (a 0), .int p0, .int p1, .int p2]) ++ List.replicate (4 - (lg_sl ([.ref (a 0), .int p0, .int p1, .int p2])).length) Slot.unset).toArray = ls at hl ⊢
  have hl : lv_has ls 4 [(0, .ref (a 0)), (1, .int p0), (2, .int p1), (3, .int p2)] := hl
  refine lv_aload_n hx hb dX2_take_0 rfl (lv_at hl 0 rfl) ?_
  refine lv_aload_n hx hb dX2_take_1 rfl (lv_at hl 0 rfl) ?_
  refine lv_iload_n hx hb dX2_take_2 rfl (lv_at hl 1 rfl) ?_
  refine lv_iload_n hx hb dX2_take_3 rfl (lv_at hl 2 rfl) ?_
  refine lv_iload_n hx hb dX2_take_4 rfl (lv_at hl 3 rfl) ?_
  refine cs_i (W.runV (As := [.int p0, .int p1, .int p2]) (rest := [.ref (a 0)]) ⟨hx, hb, hml, hown, hts⟩ (c_X2_faultOfTake l dC dI cI cJ cZ a kd lo hi vl nd so fr tg gn nr mo ma fa sv sd se sh p0 p1 p2 hn.2) (cwV 3 hts gX2_take_X2_faultOfTake rfl rfl rfl (by decide +kernel) ⟨Nat.le_of_ble_eq_true rfl, Nat.le_of_ble_eq_true rfl⟩) (fb_v hK hP (va_recv hK hP (ci := 1) (q0 := 0) rfl rfl)) rfl rfl hl.1 rfl (lv_room (Nat.le_of_ble_eq_true rfl)) dX2_take_5 ⟨Nat.zero_le _, Nat.zero_le _⟩) ?_
  refine va_put (D := (dC, dI)) (ci := 1) (v := .int (x_faultOfTake kd nd p0 p1 p2)) (ty := .int) (C := RX2) (T := TX2) (N := 14) hx hb hts h_inX2 tyX2 tyX2_ok nmX2 hown hK hP hD hS 0 rfl rfl 13 (by decide) k_0 (fun _ h9 => h9) rfl (by decide +kernel) rfl rfl (Nat.le_of_ble_eq_true rfl) dX2_take_8 (fun H locs hP hD hS => ?_)
  have hP : va_P (dC, dI) vwCl (wX cI cJ cZ a kd lo hi vl nd so fr tg gn nr mo ma (x_faultOfTake kd nd p0 p1 p2) sv sd se sh) H := hP
  have hD : va_D A (wX cI cJ cZ a kd lo hi vl nd so fr tg gn nr mo ma (x_faultOfTake kd nd p0 p1 p2) sv sd se sh) := hD
  refine lv_aload_n hx hb dX2_take_11 rfl (lv_at hl 0 rfl) ?_
  refine va_get (D := (dC, dI)) (ci := 1) (v := .int (x_faultOfTake kd nd p0 p1 p2)) (C := RX2) (T := TX2) (N := 14) hx hb hts h_inX2 hown hK hP 0 rfl rfl 13 (by decide) k_0 (fun _ h9 => h9) rfl dX2_take_12 ?_
  refine lv_if_eq (tgt := 20) hx hb dX2_take_15 (by decide) (fun c_1 => ?_) (fun c_1 => ?_)
  · skip
    refine lv_aload_n hx hb dX2_take_20 rfl (lv_at hl 0 rfl) ?_
    refine lv_iload_n hx hb dX2_take_21 rfl (lv_at hl 1 rfl) ?_
    refine lv_aload_n hx hb dX2_take_22 rfl (lv_at hl 0 rfl) ?_
    refine lv_iload_n hx hb dX2_take_23 rfl (lv_at hl 3 rfl) ?_
    refine lv_iload_n hx hb dX2_take_24 rfl (lv_at hl 2 rfl) ?_
    refine lv_iload_n hx hb dX2_take_25 rfl (lv_at hl 1 rfl) ?_
    refine cs_l (W.runV (As := [.int p2, .int p1, .int p0]) (rest := [.int p0, .ref (a 0)]) ⟨hx, hb, hml, hown, hts⟩ (c_X2_gift l dC dI cI cJ cZ a kd lo hi vl nd so fr tg gn nr mo ma (x_faultOfTake kd nd p0 p1 p2) sv sd se sh p2 p1 p0 (in_fk hn.2 (by assumption)).2 (in_fk hn.2 (by assumption)).1) (cwV 3 hts gX2_take_X2_gift rfl rfl rfl (by decide +kernel) ⟨Nat.le_of_ble_eq_true rfl, Nat.le_of_ble_eq_true rfl⟩) (fb_v hK hP (va_recv hK hP (ci := 1) (q0 := 0) rfl rfl)) rfl rfl hl.1 rfl (lv_room (Nat.le_of_ble_eq_true rfl)) dX2_take_26 ⟨Nat.zero_le _, Nat.zero_le _⟩) ?_
    have hFc := va_free (wc := (wX cI cJ cZ a kd lo hi vl nd so fr tg gn nr mo ma (x_faultOfTake kd nd p0 p1 p2) sv sd se sh)) hD hS hA [0, 1, 2, 3, 4, 5, 6, 7, 8, 9, 10, 11] rfl
    refine va_calli (va_runV (As := [.int p0, .long (x_gift kd vl p2 p1 p0)]) (rest := []) ⟨hx, hb, hml, hown, hts⟩ (c_X2_movesWhenGiven l dC dI cI cJ cZ a kd lo hi vl nd so fr tg gn nr mo ma (x_faultOfTake kd nd p0 p1 p2) sv sd se sh p0 (x_gift kd vl p2 p1 p0) hE hn hnr htg (in_fk hn.2 (by assumption)).1 H.size) (cwV 2 hts gX2_take_X2_movesWhenGiven rfl rfl rfl (by decide +kernel) ⟨Nat.le_of_ble_eq_true rfl, Nat.le_of_ble_eq_true rfl⟩) (fb_m hK hP hD (va_recv hK hP (ci := 1) (q0 := 0) rfl rfl)) rfl rfl hl.1 rfl (lv_room (Nat.le_of_ble_eq_true rfl)) dX2_take_29 ⟨Nat.zero_le _, Nat.zero_le _⟩) hS (fun q _ h => hFc q h) hFc (fun r_2 u t H1 locs ht hvm hw_2 hB hz1 hk1 hS => ?_)
    obtain ⟨kd_2, lo_2, hi_2, vl_2, nd_2, so_2, fr_2, tg_2, gn_2, nr_2, mo_2, ma_2, fa_2, sv_2, sd_2, se_2, sh_2⟩ := u
    rw [x_mwg_eq] at hw_2
    have hw_2 := hw_2.symm
    simp only [Prod.mk.injEq] at hw_2
    obtain ⟨rfl, rfl, rfl, rfl, rfl, rfl, rfl, rfl, rfl, rfl, rfl, rfl, rfl, rfl, rfl, rfl, rfl, rfl⟩ := hw_2
    obtain ⟨hP1, hK1, hD1⟩ := hB
    rw [ht] at hP1
    obtain ⟨hP, hD⟩ := va_join (wr := []) (w1 := (wX cI cJ cZ a kd lo hi ((x_gets kd lo hi nd so fr tg nr.toNatClampNeg 24 (vl, (clr gn nr.toNatClampNeg), (0 : Int32), ma, sv, sd, se, sh) p0 (x_gift kd vl p2 p1 p0)).1) nd so fr tg ((x_gets kd lo hi nd so fr tg nr.toNatClampNeg 24 (vl, (clr gn nr.toNatClampNeg), (0 : Int32), ma, sv, sd, se, sh) p0 (x_gift kd vl p2 p1 p0)).2.1) nr ((x_gets kd lo hi nd so fr tg nr.toNatClampNeg 24 (vl, (clr gn nr.toNatClampNeg), (0 : Int32), ma, sv, sd, se, sh) p0 (x_gift kd vl p2 p1 p0)).2.2.1) ((x_gets kd lo hi nd so fr tg nr.toNatClampNeg 24 (vl, (clr gn nr.toNatClampNeg), (0 : Int32), ma, sv, sd, se, sh) p0 (x_gift kd vl p2 p1 p0)).2.2.2.1) (x_faultOfTake kd nd p0 p1 p2) ((x_gets kd lo hi nd so fr tg nr.toNatClampNeg 24 (vl, (clr gn nr.toNatClampNeg), (0 : Int32), ma, sv, sd, se, sh) p0 (x_gift kd vl p2 p1 p0)).2.2.2.2.1) ((x_gets kd lo hi nd so fr tg nr.toNatClampNeg 24 (vl, (clr gn nr.toNatClampNeg), (0 : Int32), ma, sv, sd, se, sh) p0 (x_gift kd vl p2 p1 p0)).2.2.2.2.2.1) ((x_gets kd lo hi nd so fr tg nr.toNatClampNeg 24 (vl, (clr gn nr.toNatClampNeg), (0 : Int32), ma, sv, sd, se, sh) p0 (x_gift kd vl p2 p1 p0)).2.2.2.2.2.2.1) ((x_gets kd lo hi nd so fr tg nr.toNatClampNeg 24 (vl, (clr gn nr.toNatClampNeg), (0 : Int32), ma, sv, sd, se, sh) p0 (x_gift kd vl p2 p1 p0)).2.2.2.2.2.2.2))) hP hD [0, 1, 2, 3, 4, 5, 6, 7, 8, 9, 10, 11] [] rfl rfl (by decide) (by decide) hk1 hFc hP1 hD1
    generalize H1 = H at hP hS ⊢
    have hP : va_P (dC, dI) vwCl (wX cI cJ cZ a kd lo hi ((x_gets kd lo hi nd so fr tg nr.toNatClampNeg 24 (vl, (clr gn nr.toNatClampNeg), (0 : Int32), ma, sv, sd, se, sh) p0 (x_gift kd vl p2 p1 p0)).1) nd so fr tg ((x_gets kd lo hi nd so fr tg nr.toNatClampNeg 24 (vl, (clr gn nr.toNatClampNeg), (0 : Int32), ma, sv, sd, se, sh) p0 (x_gift kd vl p2 p1 p0)).2.1) nr ((x_gets kd lo hi nd so fr tg nr.toNatClampNeg 24 (vl, (clr gn nr.toNatClampNeg), (0 : Int32), ma, sv, sd, se, sh) p0 (x_gift kd vl p2 p1 p0)).2.2.1) ((x_gets kd lo hi nd so fr tg nr.toNatClampNeg 24 (vl, (clr gn nr.toNatClampNeg), (0 : Int32), ma, sv, sd, se, sh) p0 (x_gift kd vl p2 p1 p0)).2.2.2.1) (x_faultOfTake kd nd p0 p1 p2) ((x_gets kd lo hi nd so fr tg nr.toNatClampNeg 24 (vl, (clr gn nr.toNatClampNeg), (0 : Int32), ma, sv, sd, se, sh) p0 (x_gift kd vl p2 p1 p0)).2.2.2.2.1) ((x_gets kd lo hi nd so fr tg nr.toNatClampNeg 24 (vl, (clr gn nr.toNatClampNeg), (0 : Int32), ma, sv, sd, se, sh) p0 (x_gift kd vl p2 p1 p0)).2.2.2.2.2.1) ((x_gets kd lo hi nd so fr tg nr.toNatClampNeg 24 (vl, (clr gn nr.toNatClampNeg), (0 : Int32), ma, sv, sd, se, sh) p0 (x_gift kd vl p2 p1 p0)).2.2.2.2.2.2.1) ((x_gets kd lo hi nd so fr tg nr.toNatClampNeg 24 (vl, (clr gn nr.toNatClampNeg), (0 : Int32), ma, sv, sd, se, sh) p0 (x_gift kd vl p2 p1 p0)).2.2.2.2.2.2.2)) H := hP
    have hD : va_D A (wX cI cJ cZ a kd lo hi ((x_gets kd lo hi nd so fr tg nr.toNatClampNeg 24 (vl, (clr gn nr.toNatClampNeg), (0 : Int32), ma, sv, sd, se, sh) p0 (x_gift kd vl p2 p1 p0)).1) nd so fr tg ((x_gets kd lo hi nd so fr tg nr.toNatClampNeg 24 (vl, (clr gn nr.toNatClampNeg), (0 : Int32), ma, sv, sd, se, sh) p0 (x_gift kd vl p2 p1 p0)).2.1) nr ((x_gets kd lo hi nd so fr tg nr.toNatClampNeg 24 (vl, (clr gn nr.toNatClampNeg), (0 : Int32), ma, sv, sd, se, sh) p0 (x_gift kd vl p2 p1 p0)).2.2.1) ((x_gets kd lo hi nd so fr tg nr.toNatClampNeg 24 (vl, (clr gn nr.toNatClampNeg), (0 : Int32), ma, sv, sd, se, sh) p0 (x_gift kd vl p2 p1 p0)).2.2.2.1) (x_faultOfTake kd nd p0 p1 p2) ((x_gets kd lo hi nd so fr tg nr.toNatClampNeg 24 (vl, (clr gn nr.toNatClampNeg), (0 : Int32), ma, sv, sd, se, sh) p0 (x_gift kd vl p2 p1 p0)).2.2.2.2.1) ((x_gets kd lo hi nd so fr tg nr.toNatClampNeg 24 (vl, (clr gn nr.toNatClampNeg), (0 : Int32), ma, sv, sd, se, sh) p0 (x_gift kd vl p2 p1 p0)).2.2.2.2.2.1) ((x_gets kd lo hi nd so fr tg nr.toNatClampNeg 24 (vl, (clr gn nr.toNatClampNeg), (0 : Int32), ma, sv, sd, se, sh) p0 (x_gift kd vl p2 p1 p0)).2.2.2.2.2.2.1) ((x_gets kd lo hi nd so fr tg nr.toNatClampNeg 24 (vl, (clr gn nr.toNatClampNeg), (0 : Int32), ma, sv, sd, se, sh) p0 (x_gift kd vl p2 p1 p0)).2.2.2.2.2.2.2)) := hD
    exact W.iret (v := (x_gets kd lo hi nd so fr tg nr.toNatClampNeg 24 (vl, (clr gn nr.toNatClampNeg), (0 : Int32), ma, sv, sd, se, sh) p0 (x_gift kd vl p2 p1 p0)).2.2.1) hx hb hr (fun t ht hW => ⟨⟨(x_gets kd lo hi nd so fr tg nr.toNatClampNeg 24 (vl, (clr gn nr.toNatClampNeg), (0 : Int32), ma, sv, sd, se, sh) p0 (x_gift kd vl p2 p1 p0)).2.2.1, (kd, lo, hi, (x_gets kd lo hi nd so fr tg nr.toNatClampNeg 24 (vl, (clr gn nr.toNatClampNeg), (0 : Int32), ma, sv, sd, se, sh) p0 (x_gift kd vl p2 p1 p0)).1, nd, so, fr, tg, (x_gets kd lo hi nd so fr tg nr.toNatClampNeg 24 (vl, (clr gn nr.toNatClampNeg), (0 : Int32), ma, sv, sd, se, sh) p0 (x_gift kd vl p2 p1 p0)).2.1, nr, (x_gets kd lo hi nd so fr tg nr.toNatClampNeg 24 (vl, (clr gn nr.toNatClampNeg), (0 : Int32), ma, sv, sd, se, sh) p0 (x_gift kd vl p2 p1 p0)).2.2.1, (x_gets kd lo hi nd so fr tg nr.toNatClampNeg 24 (vl, (clr gn nr.toNatClampNeg), (0 : Int32), ma, sv, sd, se, sh) p0 (x_gift kd vl p2 p1 p0)).2.2.2.1, (x_faultOfTake kd nd p0 p1 p2), (x_gets kd lo hi nd so fr tg nr.toNatClampNeg 24 (vl, (clr gn nr.toNatClampNeg), (0 : Int32), ma, sv, sd, se, sh) p0 (x_gift kd vl p2 p1 p0)).2.2.2.2.1, (x_gets kd lo hi nd so fr tg nr.toNatClampNeg 24 (vl, (clr gn nr.toNatClampNeg), (0 : Int32), ma, sv, sd, se, sh) p0 (x_gift kd vl p2 p1 p0)).2.2.2.2.2.1, (x_gets kd lo hi nd so fr tg nr.toNatClampNeg 24 (vl, (clr gn nr.toNatClampNeg), (0 : Int32), ma, sv, sd, se, sh) p0 (x_gift kd vl p2 p1 p0)).2.2.2.2.2.2.1, (x_gets kd lo hi nd so fr tg nr.toNatClampNeg 24 (vl, (clr gn nr.toNatClampNeg), (0 : Int32), ma, sv, sd, se, sh) p0 (x_gift kd vl p2 p1 p0)).2.2.2.2.2.2.2), rfl, (by unfold x_take; rw [if_pos c_1]), by rw [ht]; exact hP, va_K.moved hW.alike hK, hD⟩, hS.F ht⟩) hS.2.2 dX2_take_32
  · skip
    refine lv_iconst (v := (-1)) hx hb dX2_take_18 (by decide) ?_
    exact W.iret (v := (-1 : Int32)) hx hb hr (fun t ht hW => ⟨⟨(-1 : Int32), (kd, lo, hi, vl, nd, so, fr, tg, gn, nr, mo, ma, (x_faultOfTake kd nd p0 p1 p2), sv, sd, se, sh), rfl, (by unfold x_take; rw [if_neg c_1]), by rw [ht]; exact hP, va_K.moved hW.alike hK, hD⟩, hS.F ht⟩) hS.2.2 dX2_take_19
def x_dial (kd : Nat → Int32) (lo : Nat → Int64) (hi : Nat → Int64) (vl : Nat → Int64) (nd : Int32) (so : Nat → Int32) (fr : Nat → Int32) (tg : Nat → Int32) (gn : Nat → Int32) (nr : Int32) (mo : Int32) (ma : Int32) (fa : Int32) (sv : Nat → Int64) (sd : Nat → Int32) (se : Int32) (sh : Int32) (p0 : Int32) (p1 : Int64) (p2 : Int64) : Int32 × XS :=
  if (x_faultOfDial nd p0 p1 p2) = 0 then (nd, (upd kd nd.toNatClampNeg p0), (vp_updL lo nd.toNatClampNeg p1), (vp_updL hi nd.toNatClampNeg p2), (vp_updL vl nd.toNatClampNeg (n_fitted p0 p1 p2 (0 : Int64))), (nd + (1 : Int32)), so, fr, tg, gn, nr, mo, ma, (x_faultOfDial nd p0 p1 p2), sv, sd, se, sh)
  else ((-1 : Int32), kd, lo, hi, vl, nd, so, fr, tg, gn, nr, mo, ma, (x_faultOfDial nd p0 p1 p2), sv, sd, se, sh)
set_option maxHeartbeats 4000000 in
set_option maxRecDepth 100000 in
theorem c_X2_dial (l : Launch) (dC : Nat → ClassId) (dI : Nat → Nat → Nat) (cI cJ cZ : ClassId) (a : Nat → Nat) (kd : Nat → Int32) (lo : Nat → Int64) (hi : Nat → Int64) (vl : Nat → Int64) (nd : Int32) (so : Nat → Int32) (fr : Nat → Int32) (tg : Nat → Int32) (gn : Nat → Int32) (nr : Int32) (mo : Int32) (ma : Int32) (fa : Int32) (sv : Nat → Int64) (sd : Nat → Int32) (se : Int32) (sh : Int32) (p0 : Int32) (p1 : Int64) (p2 : Int64) (hn : 0 ≤ nd ∧ nd ≤ 16) (sz : Nat) : Met l yX2_dial wsX2_dial ({ frames := 5, cells := 0, slots := 0, locals := 120 }) (va_Pc [.ref (a 0), .int p0, .long p1, .long p2] (fun U => U.heap.size = sz ∧ va_P (dC, dI) vwCl (wX cI cJ cZ a kd lo hi vl nd so fr tg gn nr mo ma fa sv sd se sh) U.heap ∧ va_K (dC, dI) vwCl (tA cI cJ cZ) U ∧ va_D (fun _ => True) (wX cI cJ cZ a kd lo hi vl nd so fr tg gn nr mo ma fa sv sd se sh))) (va_Qi (fun (r : Int32) (u : XS) => (r, u) = x_dial kd lo hi vl nd so fr tg gn nr mo ma fa sv sd se sh p0 p1 p2) (at_X dC dI cI cJ cZ (va_A (wX cI cJ cZ a kd lo hi vl nd so fr tg gn nr mo ma fa sv sd se sh) sz) a) (va_A (wX cI cJ cZ a kd lo hi vl nd so fr tg gn nr mo ma fa sv sd se sh) sz)) 0 0 (va_A (wX cI cJ cZ a kd lo hi vl nd so fr tg gn nr mo ma fa sv sd se sh) sz) := by
  refine Met.ofW (cc := cX2_dial) (maxL := 7) (ret := (some .int)) (by decide) rfl ?_
  intro p e s m args below meth c s₁ B hml hv
  obtain ⟨rfl, hsz, hP, hK, hD0⟩ := hv
  subst hsz
  have hD := hD0.self (sz := s.heap.size)
  generalize hAe : va_A (wX cI cJ cZ a kd lo hi vl nd so fr tg gn nr mo ma fa sv sd se sh) s.heap.size = A at hD ⊢
  have hA : ∀ q : Nat, s.heap.size ≤ q → A q := fun q h => by rw [← hAe]; exact Or.inr h
  have hS : va_S A s.heap s.heap [] := va_S.rf
  have hP : va_P (dC, dI) vwCl (wX cI cJ cZ a kd lo hi vl nd so fr tg gn nr mo ma fa sv sd se sh) s.heap := hP
  have hx := B.exec
  have hb := B.bytes
  have hr := B.returns
  have hts := atoms_spec (ws := wsX2_dial) B.pre
  have hown : s.vm.findClass RX2 = some m.cls := findClass_of_methodNamed B.named
  have hlocks := B.notSynchronized
  have h_inX2 : ∀ w ∈ wsX20, w ∈ wsX2_dial := fun _ h => List.mem_cons_of_mem _ (List.mem_append_right _ h)
  have k_0 := hts (.fieldLink RX2 47 "DetentCabinet" "fault" "I") (by decide +kernel)
  have k_1 := hts (.fieldLink RX2 51 "DetentCabinet" "dialCount" "I") (by decide +kernel)
  have k_2 := hts (.fieldLink RX2 9 "DetentCabinet" "kinds" "[I") (by decide +kernel)
  have k_3 := hts (.fieldLink RX2 13 "DetentCabinet" "lows" "[J") (by decide +kernel)
  have k_4 := hts (.fieldLink RX2 17 "DetentCabinet" "highs" "[J") (by decide +kernel)
  have k_5 := hts (.fieldLink RX2 20 "DetentCabinet" "values" "[J") (by decide +kernel)
  have hl := lv_entry ([.ref (a 0), .int p0, .long p1, .long p2]) (n := 7) (Nat.le_of_ble_eq_true rfl)
  rw [lg_entry_eq]
  generalize (lg_sl ([.ref (a 0), .int p0, .long p1, .long p2]) ++ List.replicate (7 - (lg_sl ([.ref (a 0), .int p0, .long p1, .long p2])).length) Slot.unset).toArray = ls at hl ⊢
  have hl : lv_has ls 7 [(0, .ref (a 0)), (1, .int p0), (2, .long p1), (4, .long p2)] := hl
  refine lv_aload_n hx hb dX2_dial_0 rfl (lv_at hl 0 rfl) ?_
  refine lv_aload_n hx hb dX2_dial_1 rfl (lv_at hl 0 rfl) ?_
  refine lv_iload_n hx hb dX2_dial_2 rfl (lv_at hl 1 rfl) ?_
  refine lv_lload_n hx hb dX2_dial_3 rfl (lv_at hl 2 rfl) ?_
  refine lv_lload hx hb dX2_dial_4 (lv_at hl 3 rfl) ?_
  refine cs_i (W.runV (As := [.int p0, .long p1, .long p2]) (rest := [.ref (a 0)]) ⟨hx, hb, hml, hown, hts⟩ (c_X2_faultOfDial l dC dI cI cJ cZ a kd lo hi vl nd so fr tg gn nr mo ma fa sv sd se sh p0 p1 p2 ) (cwV 3 hts gX2_dial_X2_faultOfDial rfl rfl rfl (by decide +kernel) ⟨Nat.le_of_ble_eq_true rfl, Nat.le_of_ble_eq_true rfl⟩) (fb_v hK hP (va_recv hK hP (ci := 1) (q0 := 0) rfl rfl)) rfl rfl hl.1 rfl (lv_room (Nat.le_of_ble_eq_true rfl)) dX2_dial_6 ⟨Nat.zero_le _, Nat.zero_le _⟩) ?_
  refine va_put (D := (dC, dI)) (ci := 1) (v := .int (x_faultOfDial nd p0 p1 p2)) (ty := .int) (C := RX2) (T := TX2) (N := 14) hx hb hts h_inX2 tyX2 tyX2_ok nmX2 hown hK hP hD hS 0 rfl rfl 13 (by decide) k_0 (fun _ h9 => h9) rfl (by decide +kernel) rfl rfl (Nat.le_of_ble_eq_true rfl) dX2_dial_9 (fun H locs hP hD hS => ?_)
  have hP : va_P (dC, dI) vwCl (wX cI cJ cZ a kd lo hi vl nd so fr tg gn nr mo ma (x_faultOfDial nd p0 p1 p2) sv sd se sh) H := hP
  have hD : va_D A (wX cI cJ cZ a kd lo hi vl nd so fr tg gn nr mo ma (x_faultOfDial nd p0 p1 p2) sv sd se sh) := hD
  refine lv_aload_n hx hb dX2_dial_12 rfl (lv_at hl 0 rfl) ?_
  refine va_get (D := (dC, dI)) (ci := 1) (v := .int (x_faultOfDial nd p0 p1 p2)) (C := RX2) (T := TX2) (N := 14) hx hb hts h_inX2 hown hK hP 0 rfl rfl 13 (by decide) k_0 (fun _ h9 => h9) rfl dX2_dial_13 ?_
  refine lv_if_eq (tgt := 21) hx hb dX2_dial_16 (by decide) (fun c_1 => ?_) (fun c_1 => ?_)
  · skip
    refine lv_aload_n hx hb dX2_dial_21 rfl (lv_at hl 0 rfl) ?_
    refine va_get (D := (dC, dI)) (ci := 1) (v := .int nd) (C := RX2) (T := TX2) (N := 14) hx hb hts h_inX2 hown hK hP 0 rfl rfl 4 (by decide) k_1 (fun _ h9 => h9) rfl dX2_dial_22 ?_
    refine lv_istore (lv' := [(6, .int nd), (0, .ref (a 0)), (1, .int p0), (2, .long p1), (4, .long p2)]) hx hb dX2_dial_25 hl (by decide) rfl (fun ls hl => ?_)
    refine lv_aload_n hx hb dX2_dial_27 rfl (lv_at hl 1 rfl) ?_
    refine va_get (D := (dC, dI)) (ci := 1) (v := .ref (a 1)) (C := RX2) (T := TX2) (N := 14) hx hb hts h_inX2 hown hK hP 0 rfl rfl 0 (by decide) k_2 (fun _ h9 => h9) rfl dX2_dial_28 ?_
    refine lv_iload hx hb dX2_dial_31 (lv_at hl 0 rfl) ?_
    refine lv_iload_n hx hb dX2_dial_33 rfl (lv_at hl 2 rfl) ?_
    refine va_iast hx hb hK hP hD hS 1 0 rfl rfl (in_fd hn.1 (by assumption)) dX2_dial_34 (fun H locs hP hD hS => ?_)
    have hP : va_P (dC, dI) vwCl (wX cI cJ cZ a (upd kd nd.toNatClampNeg p0) lo hi vl nd so fr tg gn nr mo ma (x_faultOfDial nd p0 p1 p2) sv sd se sh) H := hP
    have hD : va_D A (wX cI cJ cZ a (upd kd nd.toNatClampNeg p0) lo hi vl nd so fr tg gn nr mo ma (x_faultOfDial nd p0 p1 p2) sv sd se sh) := hD
    refine lv_aload_n hx hb dX2_dial_35 rfl (lv_at hl 1 rfl) ?_
    refine va_get (D := (dC, dI)) (ci := 1) (v := .ref (a 2)) (C := RX2) (T := TX2) (N := 14) hx hb hts h_inX2 hown hK hP 0 rfl rfl 1 (by decide) k_3 (fun _ h9 => h9) rfl dX2_dial_36 ?_
    refine lv_iload hx hb dX2_dial_39 (lv_at hl 0 rfl) ?_
    refine lv_lload_n hx hb dX2_dial_41 rfl (lv_at hl 3 rfl) ?_
    refine va_last hx hb hK hP hD hS 2 1 rfl rfl (in_fd hn.1 (by assumption)) dX2_dial_42 (fun H locs hP hD hS => ?_)
    have hP : va_P (dC, dI) vwCl (wX cI cJ cZ a (upd kd nd.toNatClampNeg p0) (vp_updL lo nd.toNatClampNeg p1) hi vl nd so fr tg gn nr mo ma (x_faultOfDial nd p0 p1 p2) sv sd se sh) H := hP
    have hD : va_D A (wX cI cJ cZ a (upd kd nd.toNatClampNeg p0) (vp_updL lo nd.toNatClampNeg p1) hi vl nd so fr tg gn nr mo ma (x_faultOfDial nd p0 p1 p2) sv sd se sh) := hD
    refine lv_aload_n hx hb dX2_dial_43 rfl (lv_at hl 1 rfl) ?_
    refine va_get (D := (dC, dI)) (ci := 1) (v := .ref (a 3)) (C := RX2) (T := TX2) (N := 14) hx hb hts h_inX2 hown hK hP 0 rfl rfl 2 (by decide) k_4 (fun _ h9 => h9) rfl dX2_dial_44 ?_
    refine lv_iload hx hb dX2_dial_47 (lv_at hl 0 rfl) ?_
    refine lv_lload hx hb dX2_dial_49 (lv_at hl 4 rfl) ?_
    refine va_last hx hb hK hP hD hS 3 1 rfl rfl (in_fd hn.1 (by assumption)) dX2_dial_51 (fun H locs hP hD hS => ?_)
    have hP : va_P (dC, dI) vwCl (wX cI cJ cZ a (upd kd nd.toNatClampNeg p0) (vp_updL lo nd.toNatClampNeg p1) (vp_updL hi nd.toNatClampNeg p2) vl nd so fr tg gn nr mo ma (x_faultOfDial nd p0 p1 p2) sv sd se sh) H := hP
    have hD : va_D A (wX cI cJ cZ a (upd kd nd.toNatClampNeg p0) (vp_updL lo nd.toNatClampNeg p1) (vp_updL hi nd.toNatClampNeg p2) vl nd so fr tg gn nr mo ma (x_faultOfDial nd p0 p1 p2) sv sd se sh) := hD
    refine lv_aload_n hx hb dX2_dial_52 rfl (lv_at hl 1 rfl) ?_
    refine va_get (D := (dC, dI)) (ci := 1) (v := .ref (a 4)) (C := RX2) (T := TX2) (N := 14) hx hb hts h_inX2 hown hK hP 0 rfl rfl 3 (by decide) k_5 (fun _ h9 => h9) rfl dX2_dial_53 ?_
    refine lv_iload hx hb dX2_dial_56 (lv_at hl 0 rfl) ?_
    refine lv_iload_n hx hb dX2_dial_58 rfl (lv_at hl 2 rfl) ?_
    refine lv_lload_n hx hb dX2_dial_59 rfl (lv_at hl 3 rfl) ?_
    refine lv_lload hx hb dX2_dial_60 (lv_at hl 4 rfl) ?_
    refine lv_lconst (v := 0) hx hb dX2_dial_62 (by decide) ?_
    refine cs_l (W.runS (As := [.int p0, .long p1, .long p2, .long (0 : Int64)]) (rest := [.int nd, .ref (a 4)]) ⟨hx, hb, hml, hown, hts⟩ (c_X0_fitted l p0 p1 p2 (0 : Int64) ) (va_cwS 4 hts gX2_dial_X0_fitted rfl rfl rfl (by decide +kernel) ⟨Nat.le_of_ble_eq_true rfl, Nat.le_of_ble_eq_true rfl⟩) fb_s rfl rfl hl.1 rfl (lv_room (Nat.le_of_ble_eq_true rfl)) dX2_dial_63 ⟨Nat.zero_le _, Nat.zero_le _⟩) ?_
    refine va_last hx hb hK hP hD hS 4 1 rfl rfl (in_fd hn.1 (by assumption)) dX2_dial_66 (fun H locs hP hD hS => ?_)
    have hP : va_P (dC, dI) vwCl (wX cI cJ cZ a (upd kd nd.toNatClampNeg p0) (vp_updL lo nd.toNatClampNeg p1) (vp_updL hi nd.toNatClampNeg p2) (vp_updL vl nd.toNatClampNeg (n_fitted p0 p1 p2 (0 : Int64))) nd so fr tg gn nr mo ma (x_faultOfDial nd p0 p1 p2) sv sd se sh) H := hP
    have hD : va_D A (wX cI cJ cZ a (upd kd nd.toNatClampNeg p0) (vp_updL lo nd.toNatClampNeg p1) (vp_updL hi nd.toNatClampNeg p2) (vp_updL vl nd.toNatClampNeg (n_fitted p0 p1 p2 (0 : Int64))) nd so fr tg gn nr mo ma (x_faultOfDial nd p0 p1 p2) sv sd se sh) := hD
    refine lv_aload_n hx hb dX2_dial_67 rfl (lv_at hl 1 rfl) ?_
    refine lv_dup hx hb dX2_dial_68 rfl ?_
    refine va_get (D := (dC, dI)) (ci := 1) (v := .int nd) (C := RX2) (T := TX2) (N := 14) hx hb hts h_inX2 hown hK hP 0 rfl rfl 4 (by decide) k_1 (fun _ h9 => h9) rfl dX2_dial_69 ?_
    refine lv_iconst (v := 1) hx hb dX2_dial_72 (by decide) ?_
    refine lv_iadd hx hb dX2_dial_73 ?_
    refine va_put (D := (dC, dI)) (ci := 1) (v := .int (nd + (1 : Int32))) (ty := .int) (C := RX2) (T := TX2) (N := 14) hx hb hts h_inX2 tyX2 tyX2_ok nmX2 hown hK hP hD hS 0 rfl rfl 4 (by decide) k_1 (fun _ h9 => h9) rfl (by decide +kernel) rfl rfl (Nat.le_of_ble_eq_true rfl) dX2_dial_74 (fun H locs hP hD hS => ?_)
    have hP : va_P (dC, dI) vwCl (wX cI cJ cZ a (upd kd nd.toNatClampNeg p0) (vp_updL lo nd.toNatClampNeg p1) (vp_updL hi nd.toNatClampNeg p2) (vp_updL vl nd.toNatClampNeg (n_fitted p0 p1 p2 (0 : Int64))) (nd + (1 : Int32)) so fr tg gn nr mo ma (x_faultOfDial nd p0 p1 p2) sv sd se sh) H := hP
    have hD : va_D A (wX cI cJ cZ a (upd kd nd.toNatClampNeg p0) (vp_updL lo nd.toNatClampNeg p1) (vp_updL hi nd.toNatClampNeg p2) (vp_updL vl nd.toNatClampNeg (n_fitted p0 p1 p2 (0 : Int64))) (nd + (1 : Int32)) so fr tg gn nr mo ma (x_faultOfDial nd p0 p1 p2) sv sd se sh) := hD
    refine lv_iload hx hb dX2_dial_77 (lv_at hl 0 rfl) ?_
    exact W.iret (v := nd) hx hb hr (fun t ht hW => ⟨⟨nd, ((upd kd nd.toNatClampNeg p0), (vp_updL lo nd.toNatClampNeg p1), (vp_updL hi nd.toNatClampNeg p2), (vp_updL vl nd.toNatClampNeg (n_fitted p0 p1 p2 (0 : Int64))), (nd + (1 : Int32)), so, fr, tg, gn, nr, mo, ma, (x_faultOfDial nd p0 p1 p2), sv, sd, se, sh), rfl, (by unfold x_dial; rw [if_pos c_1]), by rw [ht]; exact hP, va_K.moved hW.alike hK, hD⟩, hS.F ht⟩) hS.2.2 dX2_dial_79
  · skip
    refine lv_iconst (v := (-1)) hx hb dX2_dial_19 (by decide) ?_
    exact W.iret (v := (-1 : Int32)) hx hb hr (fun t ht hW => ⟨⟨(-1 : Int32), (kd, lo, hi, vl, nd, so, fr, tg, gn, nr, mo, ma, (x_faultOfDial nd p0 p1 p2), sv, sd, se, sh), rfl, (by unfold x_dial; rw [if_neg c_1]), by rw [ht]; exact hP, va_K.moved hW.alike hK, hD⟩, hS.F ht⟩) hS.2.2 dX2_dial_20
def x_rod (kd : Nat → Int32) (lo : Nat → Int64) (hi : Nat → Int64) (vl : Nat → Int64) (nd : Int32) (so : Nat → Int32) (fr : Nat → Int32) (tg : Nat → Int32) (gn : Nat → Int32) (nr : Int32) (mo : Int32) (ma : Int32) (fa : Int32) (sv : Nat → Int64) (sd : Nat → Int32) (se : Int32) (sh : Int32) (p0 : Int32) (p1 : Int32) (p2 : Int32) : Int32 × XS :=
  if (x_faultOfRod kd nd nr p0 p1 p2) = 0 then (nr, kd, lo, hi, vl, nd, (upd so nr.toNatClampNeg p0), (upd fr nr.toNatClampNeg p1), (upd tg nr.toNatClampNeg p2), gn, (nr + (1 : Int32)), mo, ma, (x_faultOfRod kd nd nr p0 p1 p2), sv, sd, se, sh)
  else ((-1 : Int32), kd, lo, hi, vl, nd, so, fr, tg, gn, nr, mo, ma, (x_faultOfRod kd nd nr p0 p1 p2), sv, sd, se, sh)
set_option maxHeartbeats 4000000 in
set_option maxRecDepth 100000 in
theorem c_X2_rod (l : Launch) (dC : Nat → ClassId) (dI : Nat → Nat → Nat) (cI cJ cZ : ClassId) (a : Nat → Nat) (kd : Nat → Int32) (lo : Nat → Int64) (hi : Nat → Int64) (vl : Nat → Int64) (nd : Int32) (so : Nat → Int32) (fr : Nat → Int32) (tg : Nat → Int32) (gn : Nat → Int32) (nr : Int32) (mo : Int32) (ma : Int32) (fa : Int32) (sv : Nat → Int64) (sd : Nat → Int32) (se : Int32) (sh : Int32) (p0 : Int32) (p1 : Int32) (p2 : Int32) (hn : 0 ≤ nd ∧ nd ≤ 16) (hnr : 0 ≤ nr ∧ nr ≤ 24) (sz : Nat) : Met l yX2_rod wsX2_rod ({ frames := 3, cells := 0, slots := 0, locals := 67 }) (va_Pc [.ref (a 0), .int p0, .int p1, .int p2] (fun U => U.heap.size = sz ∧ va_P (dC, dI) vwCl (wX cI cJ cZ a kd lo hi vl nd so fr tg gn nr mo ma fa sv sd se sh) U.heap ∧ va_K (dC, dI) vwCl (tA cI cJ cZ) U ∧ va_D (fun _ => True) (wX cI cJ cZ a kd lo hi vl nd so fr tg gn nr mo ma fa sv sd se sh))) (va_Qi (fun (r : Int32) (u : XS) => (r, u) = x_rod kd lo hi vl nd so fr tg gn nr mo ma fa sv sd se sh p0 p1 p2) (at_X dC dI cI cJ cZ (va_A (wX cI cJ cZ a kd lo hi vl nd so fr tg gn nr mo ma fa sv sd se sh) sz) a) (va_A (wX cI cJ cZ a kd lo hi vl nd so fr tg gn nr mo ma fa sv sd se sh) sz)) 0 0 (va_A (wX cI cJ cZ a kd lo hi vl nd so fr tg gn nr mo ma fa sv sd se sh) sz) := by
  refine Met.ofW (cc := cX2_rod) (maxL := 5) (ret := (some .int)) (by decide) rfl ?_
  intro p e s m args below meth c s₁ B hml hv
  obtain ⟨rfl, hsz, hP, hK, hD0⟩ := hv
  subst hsz
  have hD := hD0.self (sz := s.heap.size)
  generalize hAe : va_A (wX cI cJ cZ a kd lo hi vl nd so fr tg gn nr mo ma fa sv sd se sh) s.heap.size = A at hD ⊢
  have hA : ∀ q : Nat, s.heap.size ≤ q → A q := fun q h => by rw [← hAe]; exact Or.inr h
  have hS : va_S A s.heap s.heap [] := va_S.rf
  have hP : va_P (dC, dI) vwCl (wX cI cJ cZ a kd lo hi vl nd so fr tg gn nr mo ma fa sv sd se sh) s.heap := hP
  have hx := B.exec
  have hb := B.bytes
  have hr := B.returns
  have hts := atoms_spec (ws := wsX2_rod) B.pre
  have hown : s.vm.findClass RX2 = some m.cls := findClass_of_methodNamed B.named
  have hlocks := B.notSynchronized
  have h_inX2 : ∀ w ∈ wsX20, w ∈ wsX2_rod := fun _ h => List.mem_cons_of_mem _ (List.mem_append_right _ h)
  have k_0 := hts (.fieldLink RX2 47 "DetentCabinet" "fault" "I") (by decide +kernel)
  have k_1 := hts (.fieldLink RX2 64 "DetentCabinet" "rodCount" "I") (by decide +kernel)
  have k_2 := hts (.fieldLink RX2 23 "DetentCabinet" "rodSorts" "[I") (by decide +kernel)
  have k_3 := hts (.fieldLink RX2 26 "DetentCabinet" "rodFroms" "[I") (by decide +kernel)
  have k_4 := hts (.fieldLink RX2 29 "DetentCabinet" "rodTos" "[I") (by decide +kernel)
  have hl := lv_entry ([.ref (a 0), .int p0, .int p1, .int p2]) (n := 5) (Nat.le_of_ble_eq_true rfl)
  rw [lg_entry_eq]
  generalize (lg_sl ([.ref (a 0), .int p0, .int p1, .int p2]) ++ List.replicate (5 - (lg_sl ([.ref (a 0), .int p0, .int p1, .int p2])).length) Slot.unset).toArray = ls at hl ⊢
  have hl : lv_has ls 5 [(0, .ref (a 0)), (1, .int p0), (2, .int p1), (3, .int p2)] := hl
  refine lv_aload_n hx hb dX2_rod_0 rfl (lv_at hl 0 rfl) ?_
  refine lv_aload_n hx hb dX2_rod_1 rfl (lv_at hl 0 rfl) ?_
  refine lv_iload_n hx hb dX2_rod_2 rfl (lv_at hl 1 rfl) ?_
  refine lv_iload_n hx hb dX2_rod_3 rfl (lv_at hl 2 rfl) ?_
  refine lv_iload_n hx hb dX2_rod_4 rfl (lv_at hl 3 rfl) ?_
  refine cs_i (W.runV (As := [.int p0, .int p1, .int p2]) (rest := [.ref (a 0)]) ⟨hx, hb, hml, hown, hts⟩ (c_X2_faultOfRod l dC dI cI cJ cZ a kd lo hi vl nd so fr tg gn nr mo ma fa sv sd se sh p0 p1 p2 hn.2) (cwV 3 hts gX2_rod_X2_faultOfRod rfl rfl rfl (by decide +kernel) ⟨Nat.le_of_ble_eq_true rfl, Nat.le_of_ble_eq_true rfl⟩) (fb_v hK hP (va_recv hK hP (ci := 1) (q0 := 0) rfl rfl)) rfl rfl hl.1 rfl (lv_room (Nat.le_of_ble_eq_true rfl)) dX2_rod_5 ⟨Nat.zero_le _, Nat.zero_le _⟩) ?_
  refine va_put (D := (dC, dI)) (ci := 1) (v := .int (x_faultOfRod kd nd nr p0 p1 p2)) (ty := .int) (C := RX2) (T := TX2) (N := 14) hx hb hts h_inX2 tyX2 tyX2_ok nmX2 hown hK hP hD hS 0 rfl rfl 13 (by decide) k_0 (fun _ h9 => h9) rfl (by decide +kernel) rfl rfl (Nat.le_of_ble_eq_true rfl) dX2_rod_8 (fun H locs hP hD hS => ?_)
  have hP : va_P (dC, dI) vwCl (wX cI cJ cZ a kd lo hi vl nd so fr tg gn nr mo ma (x_faultOfRod kd nd nr p0 p1 p2) sv sd se sh) H := hP
  have hD : va_D A (wX cI cJ cZ a kd lo hi vl nd so fr tg gn nr mo ma (x_faultOfRod kd nd nr p0 p1 p2) sv sd se sh) := hD
  refine lv_aload_n hx hb dX2_rod_11 rfl (lv_at hl 0 rfl) ?_
  refine va_get (D := (dC, dI)) (ci := 1) (v := .int (x_faultOfRod kd nd nr p0 p1 p2)) (C := RX2) (T := TX2) (N := 14) hx hb hts h_inX2 hown hK hP 0 rfl rfl 13 (by decide) k_0 (fun _ h9 => h9) rfl dX2_rod_12 ?_
  refine lv_if_eq (tgt := 20) hx hb dX2_rod_15 (by decide) (fun c_1 => ?_) (fun c_1 => ?_)
  · skip
    refine lv_aload_n hx hb dX2_rod_20 rfl (lv_at hl 0 rfl) ?_
    refine va_get (D := (dC, dI)) (ci := 1) (v := .int nr) (C := RX2) (T := TX2) (N := 14) hx hb hts h_inX2 hown hK hP 0 rfl rfl 9 (by decide) k_1 (fun _ h9 => h9) rfl dX2_rod_21 ?_
    refine lv_istore (lv' := [(4, .int nr), (0, .ref (a 0)), (1, .int p0), (2, .int p1), (3, .int p2)]) hx hb dX2_rod_24 hl (by decide) rfl (fun ls hl => ?_)
    refine lv_aload_n hx hb dX2_rod_26 rfl (lv_at hl 1 rfl) ?_
    refine va_get (D := (dC, dI)) (ci := 1) (v := .ref (a 5)) (C := RX2) (T := TX2) (N := 14) hx hb hts h_inX2 hown hK hP 0 rfl rfl 5 (by decide) k_2 (fun _ h9 => h9) rfl dX2_rod_27 ?_
    refine lv_iload hx hb dX2_rod_30 (lv_at hl 0 rfl) ?_
    refine lv_iload_n hx hb dX2_rod_32 rfl (lv_at hl 2 rfl) ?_
    refine va_iast hx hb hK hP hD hS 5 0 rfl rfl (in_fr hnr.1 (by assumption)) dX2_rod_33 (fun H locs hP hD hS => ?_)
    have hP : va_P (dC, dI) vwCl (wX cI cJ cZ a kd lo hi vl nd (upd so nr.toNatClampNeg p0) fr tg gn nr mo ma (x_faultOfRod kd nd nr p0 p1 p2) sv sd se sh) H := hP
    have hD : va_D A (wX cI cJ cZ a kd lo hi vl nd (upd so nr.toNatClampNeg p0) fr tg gn nr mo ma (x_faultOfRod kd nd nr p0 p1 p2) sv sd se sh) := hD
    refine lv_aload_n hx hb dX2_rod_34 rfl (lv_at hl 1 rfl) ?_
    refine va_get (D := (dC, dI)) (ci := 1) (v := .ref (a 6)) (C := RX2) (T := TX2) (N := 14) hx hb hts h_inX2 hown hK hP 0 rfl rfl 6 (by decide) k_3 (fun _ h9 => h9) rfl dX2_rod_35 ?_
    refine lv_iload hx hb dX2_rod_38 (lv_at hl 0 rfl) ?_
    refine lv_iload_n hx hb dX2_rod_40 rfl (lv_at hl 3 rfl) ?_
    refine va_iast hx hb hK hP hD hS 6 0 rfl rfl (in_fr hnr.1 (by assumption)) dX2_rod_41 (fun H locs hP hD hS => ?_)
    have hP : va_P (dC, dI) vwCl (wX cI cJ cZ a kd lo hi vl nd (upd so nr.toNatClampNeg p0) (upd fr nr.toNatClampNeg p1) tg gn nr mo ma (x_faultOfRod kd nd nr p0 p1 p2) sv sd se sh) H := hP
    have hD : va_D A (wX cI cJ cZ a kd lo hi vl nd (upd so nr.toNatClampNeg p0) (upd fr nr.toNatClampNeg p1) tg gn nr mo ma (x_faultOfRod kd nd nr p0 p1 p2) sv sd se sh) := hD
    refine lv_aload_n hx hb dX2_rod_42 rfl (lv_at hl 1 rfl) ?_
    refine va_get (D := (dC, dI)) (ci := 1) (v := .ref (a 7)) (C := RX2) (T := TX2) (N := 14) hx hb hts h_inX2 hown hK hP 0 rfl rfl 7 (by decide) k_4 (fun _ h9 => h9) rfl dX2_rod_43 ?_
    refine lv_iload hx hb dX2_rod_46 (lv_at hl 0 rfl) ?_
    refine lv_iload_n hx hb dX2_rod_48 rfl (lv_at hl 4 rfl) ?_
    refine va_iast hx hb hK hP hD hS 7 0 rfl rfl (in_fr hnr.1 (by assumption)) dX2_rod_49 (fun H locs hP hD hS => ?_)
    have hP : va_P (dC, dI) vwCl (wX cI cJ cZ a kd lo hi vl nd (upd so nr.toNatClampNeg p0) (upd fr nr.toNatClampNeg p1) (upd tg nr.toNatClampNeg p2) gn nr mo ma (x_faultOfRod kd nd nr p0 p1 p2) sv sd se sh) H := hP
    have hD : va_D A (wX cI cJ cZ a kd lo hi vl nd (upd so nr.toNatClampNeg p0) (upd fr nr.toNatClampNeg p1) (upd tg nr.toNatClampNeg p2) gn nr mo ma (x_faultOfRod kd nd nr p0 p1 p2) sv sd se sh) := hD
    refine lv_aload_n hx hb dX2_rod_50 rfl (lv_at hl 1 rfl) ?_
    refine lv_dup hx hb dX2_rod_51 rfl ?_
    refine va_get (D := (dC, dI)) (ci := 1) (v := .int nr) (C := RX2) (T := TX2) (N := 14) hx hb hts h_inX2 hown hK hP 0 rfl rfl 9 (by decide) k_1 (fun _ h9 => h9) rfl dX2_rod_52 ?_
    refine lv_iconst (v := 1) hx hb dX2_rod_55 (by decide) ?_
    refine lv_iadd hx hb dX2_rod_56 ?_
    refine va_put (D := (dC, dI)) (ci := 1) (v := .int (nr + (1 : Int32))) (ty := .int) (C := RX2) (T := TX2) (N := 14) hx hb hts h_inX2 tyX2 tyX2_ok nmX2 hown hK hP hD hS 0 rfl rfl 9 (by decide) k_1 (fun _ h9 => h9) rfl (by decide +kernel) rfl rfl (Nat.le_of_ble_eq_true rfl) dX2_rod_57 (fun H locs hP hD hS => ?_)
    have hP : va_P (dC, dI) vwCl (wX cI cJ cZ a kd lo hi vl nd (upd so nr.toNatClampNeg p0) (upd fr nr.toNatClampNeg p1) (upd tg nr.toNatClampNeg p2) gn (nr + (1 : Int32)) mo ma (x_faultOfRod kd nd nr p0 p1 p2) sv sd se sh) H := hP
    have hD : va_D A (wX cI cJ cZ a kd lo hi vl nd (upd so nr.toNatClampNeg p0) (upd fr nr.toNatClampNeg p1) (upd tg nr.toNatClampNeg p2) gn (nr + (1 : Int32)) mo ma (x_faultOfRod kd nd nr p0 p1 p2) sv sd se sh) := hD
    refine lv_iload hx hb dX2_rod_60 (lv_at hl 0 rfl) ?_
    exact W.iret (v := nr) hx hb hr (fun t ht hW => ⟨⟨nr, (kd, lo, hi, vl, nd, (upd so nr.toNatClampNeg p0), (upd fr nr.toNatClampNeg p1), (upd tg nr.toNatClampNeg p2), gn, (nr + (1 : Int32)), mo, ma, (x_faultOfRod kd nd nr p0 p1 p2), sv, sd, se, sh), rfl, (by unfold x_rod; rw [if_pos c_1]), by rw [ht]; exact hP, va_K.moved hW.alike hK, hD⟩, hS.F ht⟩) hS.2.2 dX2_rod_62
  · skip
    refine lv_iconst (v := (-1)) hx hb dX2_rod_18 (by decide) ?_
    exact W.iret (v := (-1 : Int32)) hx hb hr (fun t ht hW => ⟨⟨(-1 : Int32), (kd, lo, hi, vl, nd, so, fr, tg, gn, nr, mo, ma, (x_faultOfRod kd nd nr p0 p1 p2), sv, sd, se, sh), rfl, (by unfold x_rod; rw [if_neg c_1]), by rw [ht]; exact hP, va_K.moved hW.alike hK, hD⟩, hS.F ht⟩) hS.2.2 dX2_rod_19
def x_order (kd : Nat → Int32) (lo : Nat → Int64) (hi : Nat → Int64) (vl : Nat → Int64) (nd : Int32) (so : Nat → Int32) (fr : Nat → Int32) (tg : Nat → Int32) (gn : Nat → Int32) (nr : Int32) (mo : Int32) (ma : Int32) (fa : Int32) (sv : Nat → Int64) (sd : Nat → Int32) (se : Int32) (sh : Int32) (p0 : Int32) (p1 : Int32) : Int32 × XS :=
  if (x_faultOfOrder kd nd p0 p1) = 0 then ((n_compared (kd p0.toNatClampNeg) (vl p0.toNatClampNeg) (vl p1.toNatClampNeg)), kd, lo, hi, vl, nd, so, fr, tg, gn, nr, mo, ma, (x_faultOfOrder kd nd p0 p1), sv, sd, se, sh)
  else ((-2 : Int32), kd, lo, hi, vl, nd, so, fr, tg, gn, nr, mo, ma, (x_faultOfOrder kd nd p0 p1), sv, sd, se, sh)
set_option maxHeartbeats 4000000 in
set_option maxRecDepth 100000 in
theorem c_X2_order (l : Launch) (dC : Nat → ClassId) (dI : Nat → Nat → Nat) (cI cJ cZ : ClassId) (a : Nat → Nat) (kd : Nat → Int32) (lo : Nat → Int64) (hi : Nat → Int64) (vl : Nat → Int64) (nd : Int32) (so : Nat → Int32) (fr : Nat → Int32) (tg : Nat → Int32) (gn : Nat → Int32) (nr : Int32) (mo : Int32) (ma : Int32) (fa : Int32) (sv : Nat → Int64) (sd : Nat → Int32) (se : Int32) (sh : Int32) (p0 : Int32) (p1 : Int32) (hn : 0 ≤ nd ∧ nd ≤ 16) (sz : Nat) : Met l yX2_order wsX2_order ({ frames := 3, cells := 0, slots := 0, locals := 70 }) (va_Pc [.ref (a 0), .int p0, .int p1] (fun U => U.heap.size = sz ∧ va_P (dC, dI) vwCl (wX cI cJ cZ a kd lo hi vl nd so fr tg gn nr mo ma fa sv sd se sh) U.heap ∧ va_K (dC, dI) vwCl (tA cI cJ cZ) U ∧ va_D (fun _ => True) (wX cI cJ cZ a kd lo hi vl nd so fr tg gn nr mo ma fa sv sd se sh))) (va_Qi (fun (r : Int32) (u : XS) => (r, u) = x_order kd lo hi vl nd so fr tg gn nr mo ma fa sv sd se sh p0 p1) (at_X dC dI cI cJ cZ (va_A (wX cI cJ cZ a kd lo hi vl nd so fr tg gn nr mo ma fa sv sd se sh) sz) a) (va_A (wX cI cJ cZ a kd lo hi vl nd so fr tg gn nr mo ma fa sv sd se sh) sz)) 0 0 (va_A (wX cI cJ cZ a kd lo hi vl nd so fr tg gn nr mo ma fa sv sd se sh) sz) := by
  refine Met.ofW (cc := cX2_order) (maxL := 3) (ret := (some .int)) (by decide) rfl ?_
  intro p e s m args below meth c s₁ B hml hv
  obtain ⟨rfl, hsz, hP, hK, hD0⟩ := hv
  subst hsz
  have hD := hD0.self (sz := s.heap.size)
  generalize hAe : va_A (wX cI cJ cZ a kd lo hi vl nd so fr tg gn nr mo ma fa sv sd se sh) s.heap.size = A at hD ⊢
  have hA : ∀ q : Nat, s.heap.size ≤ q → A q := fun q h => by rw [← hAe]; exact Or.inr h
  have hS : va_S A s.heap s.heap [] := va_S.rf
  have hP : va_P (dC, dI) vwCl (wX cI cJ cZ a kd lo hi vl nd so fr tg gn nr mo ma fa sv sd se sh) s.heap := hP
  have hx := B.exec
  have hb := B.bytes
  have hr := B.returns
  have hts := atoms_spec (ws := wsX2_order) B.pre
  have hown : s.vm.findClass RX2 = some m.cls := findClass_of_methodNamed B.named
  have hlocks := B.notSynchronized
  have h_inX2 : ∀ w ∈ wsX20, w ∈ wsX2_order := fun _ h => List.mem_cons_of_mem _ (List.mem_append_right _ h)
  have k_0 := hts (.fieldLink RX2 47 "DetentCabinet" "fault" "I") (by decide +kernel)
  have k_1 := hts (.fieldLink RX2 9 "DetentCabinet" "kinds" "[I") (by decide +kernel)
  have k_2 := hts (.fieldLink RX2 20 "DetentCabinet" "values" "[J") (by decide +kernel)
  have hl := lv_entry ([.ref (a 0), .int p0, .int p1]) (n := 3) (Nat.le_of_ble_eq_true rfl)
  rw [lg_entry_eq]
  generalize (lg_sl ([.ref (a 0), .int p0, .int p1]) ++ List.replicate (3 - (lg_sl ([.ref (a 0), .int p0, .int p1])).length) Slot.unset).toArray = ls at hl ⊢
  have hl : lv_has ls 3 [(0, .ref (a 0)), (1, .int p0), (2, .int p1)] := hl
  refine lv_aload_n hx hb dX2_order_0 rfl (lv_at hl 0 rfl) ?_
  refine lv_aload_n hx hb dX2_order_1 rfl (lv_at hl 0 rfl) ?_
  refine lv_iload_n hx hb dX2_order_2 rfl (lv_at hl 1 rfl) ?_
  refine lv_iload_n hx hb dX2_order_3 rfl (lv_at hl 2 rfl) ?_
  refine cs_i (W.runV (As := [.int p0, .int p1]) (rest := [.ref (a 0)]) ⟨hx, hb, hml, hown, hts⟩ (c_X2_faultOfOrder l dC dI cI cJ cZ a kd lo hi vl nd so fr tg gn nr mo ma fa sv sd se sh p0 p1 hn.2) (cwV 2 hts gX2_order_X2_faultOfOrder rfl rfl rfl (by decide +kernel) ⟨Nat.le_of_ble_eq_true rfl, Nat.le_of_ble_eq_true rfl⟩) (fb_v hK hP (va_recv hK hP (ci := 1) (q0 := 0) rfl rfl)) rfl rfl hl.1 rfl (lv_room (Nat.le_of_ble_eq_true rfl)) dX2_order_4 ⟨Nat.zero_le _, Nat.zero_le _⟩) ?_
  refine va_put (D := (dC, dI)) (ci := 1) (v := .int (x_faultOfOrder kd nd p0 p1)) (ty := .int) (C := RX2) (T := TX2) (N := 14) hx hb hts h_inX2 tyX2 tyX2_ok nmX2 hown hK hP hD hS 0 rfl rfl 13 (by decide) k_0 (fun _ h9 => h9) rfl (by decide +kernel) rfl rfl (Nat.le_of_ble_eq_true rfl) dX2_order_7 (fun H locs hP hD hS => ?_)
  have hP : va_P (dC, dI) vwCl (wX cI cJ cZ a kd lo hi vl nd so fr tg gn nr mo ma (x_faultOfOrder kd nd p0 p1) sv sd se sh) H := hP
  have hD : va_D A (wX cI cJ cZ a kd lo hi vl nd so fr tg gn nr mo ma (x_faultOfOrder kd nd p0 p1) sv sd se sh) := hD
  refine lv_aload_n hx hb dX2_order_10 rfl (lv_at hl 0 rfl) ?_
  refine va_get (D := (dC, dI)) (ci := 1) (v := .int (x_faultOfOrder kd nd p0 p1)) (C := RX2) (T := TX2) (N := 14) hx hb hts h_inX2 hown hK hP 0 rfl rfl 13 (by decide) k_0 (fun _ h9 => h9) rfl dX2_order_11 ?_
  refine lv_if_eq (tgt := 20) hx hb dX2_order_14 (by decide) (fun c_1 => ?_) (fun c_1 => ?_)
  · skip
    refine lv_aload_n hx hb dX2_order_20 rfl (lv_at hl 0 rfl) ?_
    refine va_get (D := (dC, dI)) (ci := 1) (v := .ref (a 1)) (C := RX2) (T := TX2) (N := 14) hx hb hts h_inX2 hown hK hP 0 rfl rfl 0 (by decide) k_1 (fun _ h9 => h9) rfl dX2_order_21 ?_
    refine lv_iload_n hx hb dX2_order_24 rfl (lv_at hl 1 rfl) ?_
    refine va_iald hx hb hK hP 1 0 rfl rfl (in_fo hn.2 (by assumption)).1 dX2_order_25 ?_
    refine lv_aload_n hx hb dX2_order_26 rfl (lv_at hl 0 rfl) ?_
    refine va_get (D := (dC, dI)) (ci := 1) (v := .ref (a 4)) (C := RX2) (T := TX2) (N := 14) hx hb hts h_inX2 hown hK hP 0 rfl rfl 3 (by decide) k_2 (fun _ h9 => h9) rfl dX2_order_27 ?_
    refine lv_iload_n hx hb dX2_order_30 rfl (lv_at hl 1 rfl) ?_
    refine va_lald hx hb hK hP 4 1 rfl rfl (in_fo hn.2 (by assumption)).1 dX2_order_31 ?_
    refine lv_aload_n hx hb dX2_order_32 rfl (lv_at hl 0 rfl) ?_
    refine va_get (D := (dC, dI)) (ci := 1) (v := .ref (a 4)) (C := RX2) (T := TX2) (N := 14) hx hb hts h_inX2 hown hK hP 0 rfl rfl 3 (by decide) k_2 (fun _ h9 => h9) rfl dX2_order_33 ?_
    refine lv_iload_n hx hb dX2_order_36 rfl (lv_at hl 2 rfl) ?_
    refine va_lald hx hb hK hP 4 1 rfl rfl (in_fo hn.2 (by assumption)).2 dX2_order_37 ?_
    refine cs_i (W.runS (As := [.int (kd p0.toNatClampNeg), .long (vl p0.toNatClampNeg), .long (vl p1.toNatClampNeg)]) (rest := []) ⟨hx, hb, hml, hown, hts⟩ (c_X0_compared l (kd p0.toNatClampNeg) (vl p0.toNatClampNeg) (vl p1.toNatClampNeg) ) (va_cwS 3 hts gX2_order_X0_compared rfl rfl rfl (by decide +kernel) ⟨Nat.le_of_ble_eq_true rfl, Nat.le_of_ble_eq_true rfl⟩) fb_s rfl rfl hl.1 rfl (lv_room (Nat.le_of_ble_eq_true rfl)) dX2_order_38 ⟨Nat.zero_le _, Nat.zero_le _⟩) ?_
    exact W.iret (v := (n_compared (kd p0.toNatClampNeg) (vl p0.toNatClampNeg) (vl p1.toNatClampNeg))) hx hb hr (fun t ht hW => ⟨⟨(n_compared (kd p0.toNatClampNeg) (vl p0.toNatClampNeg) (vl p1.toNatClampNeg)), (kd, lo, hi, vl, nd, so, fr, tg, gn, nr, mo, ma, (x_faultOfOrder kd nd p0 p1), sv, sd, se, sh), rfl, (by unfold x_order; rw [if_pos c_1]), by rw [ht]; exact hP, va_K.moved hW.alike hK, hD⟩, hS.F ht⟩) hS.2.2 dX2_order_41
  · skip
    refine lv_bipush (v := (-2)) hx hb dX2_order_17 (by decide) ?_
    exact W.iret (v := (-2 : Int32)) hx hb hr (fun t ht hW => ⟨⟨(-2 : Int32), (kd, lo, hi, vl, nd, so, fr, tg, gn, nr, mo, ma, (x_faultOfOrder kd nd p0 p1), sv, sd, se, sh), rfl, (by unfold x_order; rw [if_neg c_1]), by rw [ht]; exact hP, va_K.moved hW.alike hK, hD⟩, hS.F ht⟩) hS.2.2 dX2_order_19
end
section
theorem smI_pr {x : Int32} (h : smI x) (h0 : ¬ x = 0) : smI (x - 1) := by
  obtain ⟨n, hn, rfl⟩ := h
  cases n with
  | zero => exact absurd nI_0 h0
  | succ n => exact ⟨n, by omega, nI_pred n⟩
theorem sv_in {x : Int32} {i : Nat} (hx : vp_in x 6) (hi : i < 16) : vp_in (x * 16 + nI i) 96 := by
  obtain ⟨j, hj, rfl⟩ := vp_in_of hx (by decide)
  rw [show (16 : Int32) = nI 16 from rfl, pk_mul, nI_add]
  exact vp_in_nI (by omega) (by decide)
theorem n16_nat {x : Int32} (h : 0 ≤ x ∧ x ≤ 16) : x = nI x.toNatClampNeg ∧ x.toNatClampNeg ≤ 16 := by
  obtain ⟨N, hN, rfl⟩ := nI_of2 (M := 16) (n := 16) (by decide) (Int32.not_lt.mpr h.1) h.2
  rw [nI_clamp (by omega)]
  exact ⟨rfl, hN⟩
def r_back (sv : Nat → Int64) (sl : Int32) : Nat → Nat → (Nat → Int64) → Int32 → Int32 × (Nat → Int64)
  | 0, _, vl, o => (o, vl)
  | n + 1, i, vl, o => if vl (nI i).toNatClampNeg = sv (sl * 16 + nI i).toNatClampNeg then r_back sv sl n (i + 1) vl o else r_back sv sl n (i + 1) (vp_updL vl (nI i).toNatClampNeg (sv (sl * 16 + nI i).toNatClampNeg)) (o + 1)
set_option maxHeartbeats 4000000 in
set_option maxRecDepth 100000 in
theorem rl_loop {p : Program} {l : Launch} {e : Env} {R : Room} {s : State} {m : MethodId} {args : Array Value} {below : List Frame} {meth : Method} {c : Code} {Q : State → Prop} {A : Nat → Prop} {dC : Nat → ClassId} {dI : Nat → Nat → Nat} {cI cJ cZ : ClassId} {a : Nat → Nat} (kd : Nat → Int32) (lo : Nat → Int64) (hi : Nat → Int64) (nd : Int32) (so : Nat → Int32) (fr : Nat → Int32) (tg : Nat → Int32) (gn : Nat → Int32) (nr : Int32) (mo : Int32) (ma : Int32) (fa : Int32) (sv : Nat → Int64) (sd : Nat → Int32) (se : Int32) (sh : Int32) (N : Nat) (sl : Int32) (RES : Int32 × (Nat → Int64)) (C0 : CallFix p m c cX1_restoreLatest 7 s args wsX1_restoreLatest RX1) (hK : va_K (dC, dI) vwCl (tA cI cJ cZ) s) (hsl : vp_in sl 6) (hN : sd sl.toNatClampNeg = nI N) (hN16 : N ≤ 16) (hend : ∀ (vl : Nat → Int64) (o : Int32) (H : Heap) (locs : List Loc) (ls : Array Slot), RES = (o, vl) → va_P (dC, dI) vwCl (wX cI cJ cZ a kd lo hi vl nd so fr tg gn nr mo ma fa sv sd se sh) H → va_D A (wX cI cJ cZ a kd lo hi vl nd so fr tg gn nr mo ma fa sv sd se sh) → va_S A s.heap H locs → lv_has ls 7 [(3, .int o), (2, .int sl), (0, .ref (a 9)), (1, .ref (a 4))] → W p l e R s m args below meth c H locs 0 0 Q (F0 m 78 ls [])) :
    ∀ (n i : Nat) (x4 : Int32) (vl : Nat → Int64) (o : Int32) (H : Heap) (locs : List Loc) (ls : Array Slot), i + n = N → x4 = nI i → RES = r_back sv sl n i vl o → va_P (dC, dI) vwCl (wX cI cJ cZ a kd lo hi vl nd so fr tg gn nr mo ma fa sv sd se sh) H → va_D A (wX cI cJ cZ a kd lo hi vl nd so fr tg gn nr mo ma fa sv sd se sh) → va_S A s.heap H locs → lv_has ls 7 [(4, .int x4), (3, .int o), (2, .int sl), (0, .ref (a 9)), (1, .ref (a 4))] → W p l e R s m args below meth c H locs 0 0 Q (F0 m 28 ls []) := by
  obtain ⟨hx, hb, hml, hown, hts⟩ := C0
  have h_inX1 : ∀ w ∈ wsX10, w ∈ wsX1_restoreLatest := fun _ h => List.mem_cons_of_mem _ (List.mem_append_right _ h)
  have k_0 := hts (.fieldLink RX1 15 "DetentCabinet$Steps" "dialsAhead" "[I") (by decide +kernel)
  have k_1 := hts (.fieldLink RX1 9 "DetentCabinet$Steps" "valuesAhead" "[J") (by decide +kernel)
  intro n
  induction n with
  | zero =>
    intro i x4 vl o H locs ls hin ex hres hP hD hS hl
    subst ex
    refine lv_iload hx hb dX1_restoreLatest_28 (lv_at hl 0 rfl) ?_
    refine lv_aload_n hx hb dX1_restoreLatest_30 rfl (lv_at hl 3 rfl) ?_
    refine va_get (D := (dC, dI)) (ci := 0) (v := .ref (a 11)) (C := RX1) (T := TX1) (N := 4) hx hb hts h_inX1 hown hK hP 9 rfl rfl 1 (by decide) k_0 (fun _ h9 => h9) rfl dX1_restoreLatest_31 ?_
    refine lv_iload_n hx hb dX1_restoreLatest_34 rfl (lv_at hl 2 rfl) ?_
    refine va_iald hx hb hK hP 11 0 rfl rfl hsl dX1_restoreLatest_35 ?_
    refine lv_icmp_ge (tgt := 78) hx hb dX1_restoreLatest_36 (by decide) (fun c_1 => ?_) (fun c_1 => ?_)
    · skip
      exact hend vl o H locs ls hres hP hD hS (lv_sub hl [1, 2, 3, 4] rfl)
    · skip
      exact absurd (by rw [hN]; exact nI_le (by omega) (by omega)) c_1
  | succ n ih =>
    intro i x4 vl o H locs ls hin ex hres hP hD hS hl
    subst ex
    refine lv_iload hx hb dX1_restoreLatest_28 (lv_at hl 0 rfl) ?_
    refine lv_aload_n hx hb dX1_restoreLatest_30 rfl (lv_at hl 3 rfl) ?_
    refine va_get (D := (dC, dI)) (ci := 0) (v := .ref (a 11)) (C := RX1) (T := TX1) (N := 4) hx hb hts h_inX1 hown hK hP 9 rfl rfl 1 (by decide) k_0 (fun _ h9 => h9) rfl dX1_restoreLatest_31 ?_
    refine lv_iload_n hx hb dX1_restoreLatest_34 rfl (lv_at hl 2 rfl) ?_
    refine va_iald hx hb hK hP 11 0 rfl rfl hsl dX1_restoreLatest_35 ?_
    refine lv_icmp_ge (tgt := 78) hx hb dX1_restoreLatest_36 (by decide) (fun c_1 => ?_) (fun c_1 => ?_)
    · skip
      exact absurd (by rw [hN] at c_1; exact c_1) (nI_ge (by omega) (by omega))
    · skip
      refine lv_aload_n hx hb dX1_restoreLatest_39 rfl (lv_at hl 3 rfl) ?_
      refine va_get (D := (dC, dI)) (ci := 0) (v := .ref (a 10)) (C := RX1) (T := TX1) (N := 4) hx hb hts h_inX1 hown hK hP 9 rfl rfl 0 (by decide) k_1 (fun _ h9 => h9) rfl dX1_restoreLatest_40 ?_
      refine lv_iload_n hx hb dX1_restoreLatest_43 rfl (lv_at hl 2 rfl) ?_
      refine lv_bipush (v := 16) hx hb dX1_restoreLatest_44 (by decide) ?_
      refine lv_imul hx hb dX1_restoreLatest_46 ?_
      refine lv_iload hx hb dX1_restoreLatest_47 (lv_at hl 0 rfl) ?_
      refine lv_iadd hx hb dX1_restoreLatest_49 ?_
      refine va_lald hx hb hK hP 10 1 rfl rfl (sv_in hsl (by omega)) dX1_restoreLatest_50 ?_
      refine lv_lstore (lv' := [(5, .long (sv ((sl * (16 : Int32)) + (nI i)).toNatClampNeg)), (4, .int (nI i)), (3, .int o), (2, .int sl), (0, .ref (a 9)), (1, .ref (a 4))]) hx hb dX1_restoreLatest_51 hl (by decide) rfl (fun ls hl => ?_)
      refine lv_aload_n hx hb dX1_restoreLatest_53 rfl (lv_at hl 5 rfl) ?_
      refine lv_iload hx hb dX1_restoreLatest_54 (lv_at hl 1 rfl) ?_
      refine va_lald hx hb hK hP 4 1 rfl rfl (vp_in_nI (by omega) (by decide)) dX1_restoreLatest_56 ?_
      refine lv_lload hx hb dX1_restoreLatest_57 (lv_at hl 0 rfl) ?_
      refine W.lcmp hx hb dX1_restoreLatest_59 ?_
      refine lv_if_eq (tgt := 72) hx hb dX1_restoreLatest_60 (by decide) (fun c_2 => ?_) (fun c_2 => ?_)
      · skip
        have c_2 : (vl (nI i).toNatClampNeg) = (sv ((sl * (16 : Int32)) + (nI i)).toNatClampNeg) := (lg_cmp_eq _ _).mp c_2
        refine lv_iinc (v := ((nI i) + 1)) (lv' := [(4, .int ((nI i) + 1)), (5, .long (sv ((sl * (16 : Int32)) + (nI i)).toNatClampNeg)), (3, .int o), (2, .int sl), (0, .ref (a 9)), (1, .ref (a 4))]) hx hb dX1_restoreLatest_72 hl (k := 1) rfl rfl (by decide) rfl (fun ls hl => ?_)
        refine lv_goto (tgt := 28) hx hb dX1_restoreLatest_75 (by decide) ?_
        exact ih (i + 1) _ vl o H locs ls (by omega) (nI_1 i) (hres.trans (if_pos c_2)) hP hD hS (lv_sub hl [0, 2, 3, 4, 5] rfl)
      · skip
        have c_2 : ¬ ((vl (nI i).toNatClampNeg) = (sv ((sl * (16 : Int32)) + (nI i)).toNatClampNeg)) := fun h => c_2 ((lg_cmp_eq _ _).mpr h)
        refine lv_aload_n hx hb dX1_restoreLatest_63 rfl (lv_at hl 5 rfl) ?_
        refine lv_iload hx hb dX1_restoreLatest_64 (lv_at hl 1 rfl) ?_
        refine lv_lload hx hb dX1_restoreLatest_66 (lv_at hl 0 rfl) ?_
        refine va_last hx hb hK hP hD hS 4 1 rfl rfl (vp_in_nI (by omega) (by decide)) dX1_restoreLatest_68 (fun H locs hP hD hS => ?_)
        have hP : va_P (dC, dI) vwCl (wX cI cJ cZ a kd lo hi (vp_updL vl (nI i).toNatClampNeg (sv ((sl * (16 : Int32)) + (nI i)).toNatClampNeg)) nd so fr tg gn nr mo ma fa sv sd se sh) H := hP
        have hD : va_D A (wX cI cJ cZ a kd lo hi (vp_updL vl (nI i).toNatClampNeg (sv ((sl * (16 : Int32)) + (nI i)).toNatClampNeg)) nd so fr tg gn nr mo ma fa sv sd se sh) := hD
        refine lv_iinc (v := (o + 1)) (lv' := [(3, .int (o + 1)), (5, .long (sv ((sl * (16 : Int32)) + (nI i)).toNatClampNeg)), (4, .int (nI i)), (2, .int sl), (0, .ref (a 9)), (1, .ref (a 4))]) hx hb dX1_restoreLatest_69 hl (k := 2) rfl rfl (by decide) rfl (fun ls hl => ?_)
        refine lv_iinc (v := ((nI i) + 1)) (lv' := [(4, .int ((nI i) + 1)), (3, .int (o + 1)), (5, .long (sv ((sl * (16 : Int32)) + (nI i)).toNatClampNeg)), (2, .int sl), (0, .ref (a 9)), (1, .ref (a 4))]) hx hb dX1_restoreLatest_72 hl (k := 2) rfl rfl (by decide) rfl (fun ls hl => ?_)
        refine lv_goto (tgt := 28) hx hb dX1_restoreLatest_75 (by decide) ?_
        exact ih (i + 1) _ (vp_updL vl (nI i).toNatClampNeg (sv ((sl * (16 : Int32)) + (nI i)).toNatClampNeg)) (o + 1) H locs ls (by omega) (nI_1 i) (hres.trans (if_neg c_2)) hP hD hS (lv_sub hl [0, 1, 3, 4, 5] rfl)
def s_restoreLatest (kd : Nat → Int32) (lo : Nat → Int64) (hi : Nat → Int64) (vl : Nat → Int64) (nd : Int32) (so : Nat → Int32) (fr : Nat → Int32) (tg : Nat → Int32) (gn : Nat → Int32) (nr : Int32) (mo : Int32) (ma : Int32) (fa : Int32) (sv : Nat → Int64) (sd : Nat → Int32) (se : Int32) (sh : Int32) : Int32 × XS :=
  ((r_back sv ((se + (sh - (1 : Int32))) - (se + (sh - (1 : Int32))) / (6 : Int32) * (6 : Int32)) (sd ((se + (sh - (1 : Int32))) - (se + (sh - (1 : Int32))) / (6 : Int32) * (6 : Int32)).toNatClampNeg).toNatClampNeg 0 vl 0).1, kd, lo, hi, (r_back sv ((se + (sh - (1 : Int32))) - (se + (sh - (1 : Int32))) / (6 : Int32) * (6 : Int32)) (sd ((se + (sh - (1 : Int32))) - (se + (sh - (1 : Int32))) / (6 : Int32) * (6 : Int32)).toNatClampNeg).toNatClampNeg 0 vl 0).2, nd, so, fr, tg, gn, nr, mo, ma, fa, sv, sd, se, (sh - (1 : Int32)))
set_option maxHeartbeats 4000000 in
set_option maxRecDepth 100000 in
theorem c_X1_restoreLatest (l : Launch) (dC : Nat → ClassId) (dI : Nat → Nat → Nat) (cI cJ cZ : ClassId) (a : Nat → Nat) (kd : Nat → Int32) (lo : Nat → Int64) (hi : Nat → Int64) (vl : Nat → Int64) (nd : Int32) (so : Nat → Int32) (fr : Nat → Int32) (tg : Nat → Int32) (gn : Nat → Int32) (nr : Int32) (mo : Int32) (ma : Int32) (fa : Int32) (sv : Nat → Int64) (sd : Nat → Int32) (se : Int32) (sh : Int32) (hE : okE se sh) (h0 : ¬ sh = 0) (hsd : ∀ j, 0 ≤ sd j ∧ sd j ≤ 16) (sz : Nat) : Met l yX1_restoreLatest wsX1_restoreLatest ({ frames := 0, cells := 0, slots := 0, locals := 0 }) (va_Pc [.ref (a 9), .ref (a 4)] (fun U => U.heap.size = sz ∧ va_P (dC, dI) vwCl (wX cI cJ cZ a kd lo hi vl nd so fr tg gn nr mo ma fa sv sd se sh) U.heap ∧ va_K (dC, dI) vwCl (tA cI cJ cZ) U ∧ va_D (fun _ => True) (wX cI cJ cZ a kd lo hi vl nd so fr tg gn nr mo ma fa sv sd se sh))) (va_Qi (fun (r : Int32) (u : XS) => (r, u) = s_restoreLatest kd lo hi vl nd so fr tg gn nr mo ma fa sv sd se sh) (at_X dC dI cI cJ cZ (va_A (wX cI cJ cZ a kd lo hi vl nd so fr tg gn nr mo ma fa sv sd se sh) sz) a) (va_A (wX cI cJ cZ a kd lo hi vl nd so fr tg gn nr mo ma fa sv sd se sh) sz)) 0 0 (va_A (wX cI cJ cZ a kd lo hi vl nd so fr tg gn nr mo ma fa sv sd se sh) sz) := by
  refine Met.ofW (cc := cX1_restoreLatest) (maxL := 7) (ret := (some .int)) (by decide) rfl ?_
  intro p e s m args below meth c s₁ B hml hv
  obtain ⟨rfl, hsz, hP, hK, hD0⟩ := hv
  subst hsz
  have hD := hD0.self (sz := s.heap.size)
  generalize hAe : va_A (wX cI cJ cZ a kd lo hi vl nd so fr tg gn nr mo ma fa sv sd se sh) s.heap.size = A at hD ⊢
  have hA : ∀ q : Nat, s.heap.size ≤ q → A q := fun q h => by rw [← hAe]; exact Or.inr h
  have hS : va_S A s.heap s.heap [] := va_S.rf
  have hP : va_P (dC, dI) vwCl (wX cI cJ cZ a kd lo hi vl nd so fr tg gn nr mo ma fa sv sd se sh) s.heap := hP
  have hx := B.exec
  have hb := B.bytes
  have hr := B.returns
  have hts := atoms_spec (ws := wsX1_restoreLatest) B.pre
  have hown : s.vm.findClass RX1 = some m.cls := findClass_of_methodNamed B.named
  have hlocks := B.notSynchronized
  have h_inX1 : ∀ w ∈ wsX10, w ∈ wsX1_restoreLatest := fun _ h => List.mem_cons_of_mem _ (List.mem_append_right _ h)
  have k_0 := hts (.fieldLink RX1 19 "DetentCabinet$Steps" "held" "I") (by decide +kernel)
  have k_1 := hts (.fieldLink RX1 23 "DetentCabinet$Steps" "earliest" "I") (by decide +kernel)
  have hl := lv_entry ([.ref (a 9), .ref (a 4)]) (n := 7) (Nat.le_of_ble_eq_true rfl)
  rw [lg_entry_eq]
  generalize (lg_sl ([.ref (a 9), .ref (a 4)]) ++ List.replicate (7 - (lg_sl ([.ref (a 9), .ref (a 4)])).length) Slot.unset).toArray = ls at hl ⊢
  have hl : lv_has ls 7 [(0, .ref (a 9)), (1, .ref (a 4))] := hl
  refine lv_aload_n hx hb dX1_restoreLatest_0 rfl (lv_at hl 0 rfl) ?_
  refine lv_dup hx hb dX1_restoreLatest_1 rfl ?_
  refine va_get (D := (dC, dI)) (ci := 0) (v := .int sh) (C := RX1) (T := TX1) (N := 4) hx hb hts h_inX1 hown hK hP 9 rfl rfl 3 (by decide) k_0 (fun _ h9 => h9) rfl dX1_restoreLatest_2 ?_
  refine lv_iconst (v := 1) hx hb dX1_restoreLatest_5 (by decide) ?_
  refine lv_isub hx hb dX1_restoreLatest_6 ?_
  refine va_put (D := (dC, dI)) (ci := 0) (v := .int (sh - (1 : Int32))) (ty := .int) (C := RX1) (T := TX1) (N := 4) hx hb hts h_inX1 tyX1 tyX1_ok nmX1 hown hK hP hD hS 9 rfl rfl 3 (by decide) k_0 (fun _ h9 => h9) rfl (by decide +kernel) rfl rfl (Nat.le_of_ble_eq_true rfl) dX1_restoreLatest_7 (fun H locs hP hD hS => ?_)
  have hP : va_P (dC, dI) vwCl (wX cI cJ cZ a kd lo hi vl nd so fr tg gn nr mo ma fa sv sd se (sh - (1 : Int32))) H := hP
  have hD : va_D A (wX cI cJ cZ a kd lo hi vl nd so fr tg gn nr mo ma fa sv sd se (sh - (1 : Int32))) := hD
  refine lv_aload_n hx hb dX1_restoreLatest_10 rfl (lv_at hl 0 rfl) ?_
  refine va_get (D := (dC, dI)) (ci := 0) (v := .int se) (C := RX1) (T := TX1) (N := 4) hx hb hts h_inX1 hown hK hP 9 rfl rfl 2 (by decide) k_1 (fun _ h9 => h9) rfl dX1_restoreLatest_11 ?_
  refine lv_aload_n hx hb dX1_restoreLatest_14 rfl (lv_at hl 0 rfl) ?_
  refine va_get (D := (dC, dI)) (ci := 0) (v := .int (sh - (1 : Int32))) (C := RX1) (T := TX1) (N := 4) hx hb hts h_inX1 hown hK hP 9 rfl rfl 3 (by decide) k_0 (fun _ h9 => h9) rfl dX1_restoreLatest_15 ?_
  refine lv_iadd hx hb dX1_restoreLatest_18 ?_
  refine lv_bipush (v := 6) hx hb dX1_restoreLatest_19 (by decide) ?_
  refine lv_irem hx hb dX1_restoreLatest_21 (by decide) ?_
  refine lv_istore_n (lv' := [(2, .int ((se + (sh - (1 : Int32))) - (se + (sh - (1 : Int32))) / (6 : Int32) * (6 : Int32))), (0, .ref (a 9)), (1, .ref (a 4))]) hx hb dX1_restoreLatest_22 rfl hl (by decide) rfl (fun ls hl => ?_)
  refine lv_iconst (v := 0) hx hb dX1_restoreLatest_23 (by decide) ?_
  refine lv_istore_n (lv' := [(3, .int (0 : Int32)), (2, .int ((se + (sh - (1 : Int32))) - (se + (sh - (1 : Int32))) / (6 : Int32) * (6 : Int32))), (0, .ref (a 9)), (1, .ref (a 4))]) hx hb dX1_restoreLatest_24 rfl hl (by decide) rfl (fun ls hl => ?_)
  refine lv_iconst (v := 0) hx hb dX1_restoreLatest_25 (by decide) ?_
  refine lv_istore (lv' := [(4, .int (0 : Int32)), (3, .int (0 : Int32)), (2, .int ((se + (sh - (1 : Int32))) - (se + (sh - (1 : Int32))) / (6 : Int32) * (6 : Int32))), (0, .ref (a 9)), (1, .ref (a 4))]) hx hb dX1_restoreLatest_26 hl (by decide) rfl (fun ls hl => ?_)
  refine rl_loop kd lo hi nd so fr tg gn nr mo ma fa sv sd se (sh - (1 : Int32)) (sd ((se + (sh - (1 : Int32))) - (se + (sh - (1 : Int32))) / (6 : Int32) * (6 : Int32)).toNatClampNeg).toNatClampNeg ((se + (sh - (1 : Int32))) - (se + (sh - (1 : Int32))) / (6 : Int32) * (6 : Int32)) (r_back sv ((se + (sh - (1 : Int32))) - (se + (sh - (1 : Int32))) / (6 : Int32) * (6 : Int32)) (sd ((se + (sh - (1 : Int32))) - (se + (sh - (1 : Int32))) / (6 : Int32) * (6 : Int32)).toNatClampNeg).toNatClampNeg 0 vl 0) ⟨hx, hb, hml, hown, hts⟩ hK (slot_in (smI_se hE) (smI_pr (smI_sh hE) h0)) (n16_nat (hsd _)).1 (n16_nat (hsd _)).2 (fun vl_9 o_9 H locs ls hres hP hD hS hl => ?_) (sd ((se + (sh - (1 : Int32))) - (se + (sh - (1 : Int32))) / (6 : Int32) * (6 : Int32)).toNatClampNeg).toNatClampNeg 0 _ vl _ H locs ls (by omega) nI_0.symm rfl hP hD hS (lv_sub hl [0, 1, 2, 3, 4] rfl)
  refine lv_iload_n hx hb dX1_restoreLatest_78 rfl (lv_at hl 0 rfl) ?_
  exact W.iret (v := o_9) hx hb hr (fun t ht hW => ⟨⟨o_9, (kd, lo, hi, vl_9, nd, so, fr, tg, gn, nr, mo, ma, fa, sv, sd, se, (sh - (1 : Int32))), rfl, (by unfold s_restoreLatest; rw [hres]), by rw [ht]; exact hP, va_K.moved hW.alike hK, hD⟩, hS.F ht⟩) hS.2.2 dX1_restoreLatest_79
theorem s_rl_eq (kd : Nat → Int32) (lo : Nat → Int64) (hi : Nat → Int64) (vl : Nat → Int64) (nd : Int32) (so : Nat → Int32) (fr : Nat → Int32) (tg : Nat → Int32) (gn : Nat → Int32) (nr : Int32) (mo : Int32) (ma : Int32) (fa : Int32) (sv : Nat → Int64) (sd : Nat → Int32) (se : Int32) (sh : Int32) : s_restoreLatest kd lo hi vl nd so fr tg gn nr mo ma fa sv sd se sh = ((r_back sv ((se + (sh - (1 : Int32))) - (se + (sh - (1 : Int32))) / (6 : Int32) * (6 : Int32)) (sd ((se + (sh - (1 : Int32))) - (se + (sh - (1 : Int32))) / (6 : Int32) * (6 : Int32)).toNatClampNeg).toNatClampNeg 0 vl 0).1, kd, lo, hi, (r_back sv ((se + (sh - (1 : Int32))) - (se + (sh - (1 : Int32))) / (6 : Int32) * (6 : Int32)) (sd ((se + (sh - (1 : Int32))) - (se + (sh - (1 : Int32))) / (6 : Int32) * (6 : Int32)).toNatClampNeg).toNatClampNeg 0 vl 0).2, nd, so, fr, tg, gn, nr, mo, ma, fa, sv, sd, se, (sh - (1 : Int32))) := by
  rfl
theorem held_ne {sh : Int32} (h : ¬ s_held sh = 0) : ¬ sh = 0 := h
def x_back (kd : Nat → Int32) (lo : Nat → Int64) (hi : Nat → Int64) (vl : Nat → Int64) (nd : Int32) (so : Nat → Int32) (fr : Nat → Int32) (tg : Nat → Int32) (gn : Nat → Int32) (nr : Int32) (mo : Int32) (ma : Int32) (fa : Int32) (sv : Nat → Int64) (sd : Nat → Int32) (se : Int32) (sh : Int32) : Int32 × XS :=
  if (s_held sh) = 0 then ((-1 : Int32), kd, lo, hi, vl, nd, so, fr, tg, gn, nr, mo, ma, (7 : Int32), sv, sd, se, sh)
  else ((r_back sv ((se + (sh - (1 : Int32))) - (se + (sh - (1 : Int32))) / (6 : Int32) * (6 : Int32)) (sd ((se + (sh - (1 : Int32))) - (se + (sh - (1 : Int32))) / (6 : Int32) * (6 : Int32)).toNatClampNeg).toNatClampNeg 0 vl 0).1, kd, lo, hi, (r_back sv ((se + (sh - (1 : Int32))) - (se + (sh - (1 : Int32))) / (6 : Int32) * (6 : Int32)) (sd ((se + (sh - (1 : Int32))) - (se + (sh - (1 : Int32))) / (6 : Int32) * (6 : Int32)).toNatClampNeg).toNatClampNeg 0 vl 0).2, nd, so, fr, tg, gn, nr, mo, ma, (0 : Int32), sv, sd, se, (sh - (1 : Int32)))
set_option maxHeartbeats 4000000 in
set_option maxRecDepth 100000 in
theorem c_X2_back (l : Launch) (dC : Nat → ClassId) (dI : Nat → Nat → Nat) (cI cJ cZ : ClassId) (a : Nat → Nat) (kd : Nat → Int32) (lo : Nat → Int64) (hi : Nat → Int64) (vl : Nat → Int64) (nd : Int32) (so : Nat → Int32) (fr : Nat → Int32) (tg : Nat → Int32) (gn : Nat → Int32) (nr : Int32) (mo : Int32) (ma : Int32) (fa : Int32) (sv : Nat → Int64) (sd : Nat → Int32) (se : Int32) (sh : Int32) (hE : okE se sh) (hsd : ∀ j, 0 ≤ sd j ∧ sd j ≤ 16) (sz : Nat) : Met l yX2_back wsX2_back ({ frames := 1, cells := 0, slots := 0, locals := 26 }) (va_Pc [.ref (a 0)] (fun U => U.heap.size = sz ∧ va_P (dC, dI) vwCl (wX cI cJ cZ a kd lo hi vl nd so fr tg gn nr mo ma fa sv sd se sh) U.heap ∧ va_K (dC, dI) vwCl (tA cI cJ cZ) U ∧ va_D (fun _ => True) (wX cI cJ cZ a kd lo hi vl nd so fr tg gn nr mo ma fa sv sd se sh))) (va_Qi (fun (r : Int32) (u : XS) => (r, u) = x_back kd lo hi vl nd so fr tg gn nr mo ma fa sv sd se sh) (at_X dC dI cI cJ cZ (va_A (wX cI cJ cZ a kd lo hi vl nd so fr tg gn nr mo ma fa sv sd se sh) sz) a) (va_A (wX cI cJ cZ a kd lo hi vl nd so fr tg gn nr mo ma fa sv sd se sh) sz)) 0 0 (va_A (wX cI cJ cZ a kd lo hi vl nd so fr tg gn nr mo ma fa sv sd se sh) sz) := by
  refine Met.ofW (cc := cX2_back) (maxL := 1) (ret := (some .int)) (by decide) rfl ?_
  intro p e s m args below meth c s₁ B hml hv
  obtain ⟨rfl, hsz, hP, hK, hD0⟩ := hv
  subst hsz
  have hD := hD0.self (sz := s.heap.size)
  generalize hAe : va_A (wX cI cJ cZ a kd lo hi vl nd so fr tg gn nr mo ma fa sv sd se sh) s.heap.size = A at hD ⊢
  have hA : ∀ q : Nat, s.heap.size ≤ q → A q := fun q h => by rw [← hAe]; exact Or.inr h
  have hS : va_S A s.heap s.heap [] := va_S.rf
  have hP : va_P (dC, dI) vwCl (wX cI cJ cZ a kd lo hi vl nd so fr tg gn nr mo ma fa sv sd se sh) s.heap := hP
  have hx := B.exec
  have hb := B.bytes
  have hr := B.returns
  have hts := atoms_spec (ws := wsX2_back) B.pre
  have hown : s.vm.findClass RX2 = some m.cls := findClass_of_methodNamed B.named
  have hlocks := B.notSynchronized
  have h_inX2 : ∀ w ∈ wsX20, w ∈ wsX2_back := fun _ h => List.mem_cons_of_mem _ (List.mem_append_left _ (List.mem_append_right _ h))
  have k_0 := hts (.fieldLink RX2 39 "DetentCabinet" "steps" "LDetentCabinet$Steps;") (by decide +kernel)
  have k_1 := hts (.fieldLink RX2 47 "DetentCabinet" "fault" "I") (by decide +kernel)
  have k_2 := hts (.fieldLink RX2 20 "DetentCabinet" "values" "[J") (by decide +kernel)
  have hl := lv_entry ([.ref (a 0)]) (n := 1) (Nat.le_of_ble_eq_true rfl)
  rw [lg_entry_eq]
  generalize (lg_sl ([.ref (a 0)]) ++ List.replicate (1 - (lg_sl ([.ref (a 0)])).length) Slot.unset).toArray = ls at hl ⊢
  have hl : lv_has ls 1 [(0, .ref (a 0))] := hl
  refine lv_aload_n hx hb dX2_back_0 rfl (lv_at hl 0 rfl) ?_
  refine lv_aload_n hx hb dX2_back_1 rfl (lv_at hl 0 rfl) ?_
  refine va_get (D := (dC, dI)) (ci := 1) (v := .ref (a 9)) (C := RX2) (T := TX2) (N := 14) hx hb hts h_inX2 hown hK hP 0 rfl rfl 10 (by decide) k_0 (fun _ h9 => h9) rfl dX2_back_2 ?_
  refine cs_i (W.runV (As := []) (rest := [.ref (a 0)]) ⟨hx, hb, hml, hown, hts⟩ (c_X1_held l dC dI cI cJ cZ a kd lo hi vl nd so fr tg gn nr mo ma fa sv sd se sh  ) (cwV 0 hts gX2_back_X1_held rfl rfl rfl (by decide +kernel) ⟨Nat.le_of_ble_eq_true rfl, Nat.le_of_ble_eq_true rfl⟩) (fb_v hK hP (va_recv hK hP (ci := 0) (q0 := 9) rfl rfl)) rfl rfl hl.1 rfl (lv_room (Nat.le_of_ble_eq_true rfl)) dX2_back_5 ⟨Nat.zero_le _, Nat.zero_le _⟩) ?_
  refine lv_if_ne (tgt := 16) hx hb dX2_back_8 (by decide) (fun c_1 => ?_) (fun c_1 => ?_)
  · skip
    refine lv_iconst (v := 0) hx hb dX2_back_16 (by decide) ?_
    refine va_put (D := (dC, dI)) (ci := 1) (v := .int (0 : Int32)) (ty := .int) (C := RX2) (T := TX2) (N := 14) hx hb hts h_inX2 tyX2 tyX2_ok nmX2 hown hK hP hD hS 0 rfl rfl 13 (by decide) k_1 (fun _ h9 => h9) rfl (by decide +kernel) rfl rfl (Nat.le_of_ble_eq_true rfl) dX2_back_17 (fun H locs hP hD hS => ?_)
    have hP : va_P (dC, dI) vwCl (wX cI cJ cZ a kd lo hi vl nd so fr tg gn nr mo ma (0 : Int32) sv sd se sh) H := hP
    have hD : va_D A (wX cI cJ cZ a kd lo hi vl nd so fr tg gn nr mo ma (0 : Int32) sv sd se sh) := hD
    refine lv_aload_n hx hb dX2_back_20 rfl (lv_at hl 0 rfl) ?_
    refine va_get (D := (dC, dI)) (ci := 1) (v := .int (0 : Int32)) (C := RX2) (T := TX2) (N := 14) hx hb hts h_inX2 hown hK hP 0 rfl rfl 13 (by decide) k_1 (fun _ h9 => h9) rfl dX2_back_21 ?_
    refine lv_if_eq (tgt := 29) hx hb dX2_back_24 (by decide) (fun c_2 => ?_) (fun c_2 => ?_)
    · skip
      refine lv_aload_n hx hb dX2_back_29 rfl (lv_at hl 0 rfl) ?_
      refine va_get (D := (dC, dI)) (ci := 1) (v := .ref (a 9)) (C := RX2) (T := TX2) (N := 14) hx hb hts h_inX2 hown hK hP 0 rfl rfl 10 (by decide) k_0 (fun _ h9 => h9) rfl dX2_back_30 ?_
      refine lv_aload_n hx hb dX2_back_33 rfl (lv_at hl 0 rfl) ?_
      refine va_get (D := (dC, dI)) (ci := 1) (v := .ref (a 4)) (C := RX2) (T := TX2) (N := 14) hx hb hts h_inX2 hown hK hP 0 rfl rfl 3 (by decide) k_2 (fun _ h9 => h9) rfl dX2_back_34 ?_
      have hFc := va_free (wc := (wX cI cJ cZ a kd lo hi vl nd so fr tg gn nr mo ma (0 : Int32) sv sd se sh)) hD hS hA [0, 1, 2, 3, 4, 5, 6, 7, 8, 9, 10, 11] rfl
      refine va_calli (va_runV (As := [.ref (a 4)]) (rest := []) ⟨hx, hb, hml, hown, hts⟩ (c_X1_restoreLatest l dC dI cI cJ cZ a kd lo hi vl nd so fr tg gn nr mo ma (0 : Int32) sv sd se sh  hE (held_ne (by assumption)) hsd H.size) (cwV 1 hts gX2_back_X1_restoreLatest rfl rfl rfl (by decide +kernel) ⟨Nat.le_of_ble_eq_true rfl, Nat.le_of_ble_eq_true rfl⟩) (fb_m hK hP hD (va_recv hK hP (ci := 0) (q0 := 9) rfl rfl)) rfl rfl hl.1 rfl (lv_room (Nat.le_of_ble_eq_true rfl)) dX2_back_37 ⟨Nat.zero_le _, Nat.zero_le _⟩) hS (fun q _ h => hFc q h) hFc (fun r_3 u t H1 locs ht hvm hw_3 hB hz1 hk1 hS => ?_)
      obtain ⟨kd_3, lo_3, hi_3, vl_3, nd_3, so_3, fr_3, tg_3, gn_3, nr_3, mo_3, ma_3, fa_3, sv_3, sd_3, se_3, sh_3⟩ := u
      rw [s_rl_eq] at hw_3
      have hw_3 := hw_3.symm
      simp only [Prod.mk.injEq] at hw_3
      obtain ⟨rfl, rfl, rfl, rfl, rfl, rfl, rfl, rfl, rfl, rfl, rfl, rfl, rfl, rfl, rfl, rfl, rfl, rfl⟩ := hw_3
      obtain ⟨hP1, hK1, hD1⟩ := hB
      rw [ht] at hP1
      obtain ⟨hP, hD⟩ := va_join (wr := []) (w1 := (wX cI cJ cZ a kd lo hi ((r_back sv ((se + (sh - (1 : Int32))) - (se + (sh - (1 : Int32))) / (6 : Int32) * (6 : Int32)) (sd ((se + (sh - (1 : Int32))) - (se + (sh - (1 : Int32))) / (6 : Int32) * (6 : Int32)).toNatClampNeg).toNatClampNeg 0 vl 0).2) nd so fr tg gn nr mo ma (0 : Int32) sv sd se (sh - (1 : Int32)))) hP hD [0, 1, 2, 3, 4, 5, 6, 7, 8, 9, 10, 11] [] rfl rfl (by decide) (by decide) hk1 hFc hP1 hD1
      generalize H1 = H at hP hS ⊢
      have hP : va_P (dC, dI) vwCl (wX cI cJ cZ a kd lo hi ((r_back sv ((se + (sh - (1 : Int32))) - (se + (sh - (1 : Int32))) / (6 : Int32) * (6 : Int32)) (sd ((se + (sh - (1 : Int32))) - (se + (sh - (1 : Int32))) / (6 : Int32) * (6 : Int32)).toNatClampNeg).toNatClampNeg 0 vl 0).2) nd so fr tg gn nr mo ma (0 : Int32) sv sd se (sh - (1 : Int32))) H := hP
      have hD : va_D A (wX cI cJ cZ a kd lo hi ((r_back sv ((se + (sh - (1 : Int32))) - (se + (sh - (1 : Int32))) / (6 : Int32) * (6 : Int32)) (sd ((se + (sh - (1 : Int32))) - (se + (sh - (1 : Int32))) / (6 : Int32) * (6 : Int32)).toNatClampNeg).toNatClampNeg 0 vl 0).2) nd so fr tg gn nr mo ma (0 : Int32) sv sd se (sh - (1 : Int32))) := hD
      exact W.iret (v := (r_back sv ((se + (sh - (1 : Int32))) - (se + (sh - (1 : Int32))) / (6 : Int32) * (6 : Int32)) (sd ((se + (sh - (1 : Int32))) - (se + (sh - (1 : Int32))) / (6 : Int32) * (6 : Int32)).toNatClampNeg).toNatClampNeg 0 vl 0).1) hx hb hr (fun t ht hW => ⟨⟨(r_back sv ((se + (sh - (1 : Int32))) - (se + (sh - (1 : Int32))) / (6 : Int32) * (6 : Int32)) (sd ((se + (sh - (1 : Int32))) - (se + (sh - (1 : Int32))) / (6 : Int32) * (6 : Int32)).toNatClampNeg).toNatClampNeg 0 vl 0).1, (kd, lo, hi, (r_back sv ((se + (sh - (1 : Int32))) - (se + (sh - (1 : Int32))) / (6 : Int32) * (6 : Int32)) (sd ((se + (sh - (1 : Int32))) - (se + (sh - (1 : Int32))) / (6 : Int32) * (6 : Int32)).toNatClampNeg).toNatClampNeg 0 vl 0).2, nd, so, fr, tg, gn, nr, mo, ma, (0 : Int32), sv, sd, se, (sh - (1 : Int32))), rfl, (by unfold x_back; rw [if_neg c_1]), by rw [ht]; exact hP, va_K.moved hW.alike hK, hD⟩, hS.F ht⟩) hS.2.2 dX2_back_40
    · skip
      exact absurd (by decide) c_2
  · skip
    refine lv_bipush (v := 7) hx hb dX2_back_11 (by decide) ?_
    refine lv_goto (tgt := 17) hx hb dX2_back_13 (by decide) ?_
    refine va_put (D := (dC, dI)) (ci := 1) (v := .int (7 : Int32)) (ty := .int) (C := RX2) (T := TX2) (N := 14) hx hb hts h_inX2 tyX2 tyX2_ok nmX2 hown hK hP hD hS 0 rfl rfl 13 (by decide) k_1 (fun _ h9 => h9) rfl (by decide +kernel) rfl rfl (Nat.le_of_ble_eq_true rfl) dX2_back_17 (fun H locs hP hD hS => ?_)
    have hP : va_P (dC, dI) vwCl (wX cI cJ cZ a kd lo hi vl nd so fr tg gn nr mo ma (7 : Int32) sv sd se sh) H := hP
    have hD : va_D A (wX cI cJ cZ a kd lo hi vl nd so fr tg gn nr mo ma (7 : Int32) sv sd se sh) := hD
    refine lv_aload_n hx hb dX2_back_20 rfl (lv_at hl 0 rfl) ?_
    refine va_get (D := (dC, dI)) (ci := 1) (v := .int (7 : Int32)) (C := RX2) (T := TX2) (N := 14) hx hb hts h_inX2 hown hK hP 0 rfl rfl 13 (by decide) k_1 (fun _ h9 => h9) rfl dX2_back_21 ?_
    refine lv_if_eq (tgt := 29) hx hb dX2_back_24 (by decide) (fun c_4 => ?_) (fun c_4 => ?_)
    · skip
      exact absurd c_4 (by decide)
    · skip
      refine lv_iconst (v := (-1)) hx hb dX2_back_27 (by decide) ?_
      exact W.iret (v := (-1 : Int32)) hx hb hr (fun t ht hW => ⟨⟨(-1 : Int32), (kd, lo, hi, vl, nd, so, fr, tg, gn, nr, mo, ma, (7 : Int32), sv, sd, se, sh), rfl, (by unfold x_back; rw [if_pos c_1]), by rw [ht]; exact hP, va_K.moved hW.alike hK, hD⟩, hS.F ht⟩) hS.2.2 dX2_back_28
end
