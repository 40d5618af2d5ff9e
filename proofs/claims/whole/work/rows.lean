section
-- ===== PART A: goes FIRST, ahead of the names: the tables' words, and 'selects' of the private methods out of them =====
/-- a private method of a class that the tables say can be made, by its rows of tables_1 -/
def lw_okq (q : MethodName × Nat) : Prop := (q.1.cls ≠ "java/lang/invoke/MethodHandle" ∧ q.1.cls ≠ "java/lang/invoke/VarHandle") ∧ Cond.instantiable q.1.cls q.2 ∈ tables_1 ∧ Cond.privateMethod q.1 ∈ tables_1 ∧ Cond.instanceMethod q.1 ∈ tables_1
theorem lw_p0 : lw_okq (⟨"FlowCurves", "refused", "(I)I"⟩, 10) := ⟨⟨by decide +kernel, by decide +kernel⟩, List.mem_of_getElem? (i := 16) (by decide +kernel), List.mem_of_getElem? (i := 104) (by decide +kernel), List.mem_of_getElem? (i := 105) (by decide +kernel)⟩
theorem lw_p1 : lw_okq (⟨"FlowCurves", "granted", "(I)I"⟩, 10) := ⟨⟨by decide +kernel, by decide +kernel⟩, List.mem_of_getElem? (i := 16) (by decide +kernel), List.mem_of_getElem? (i := 108) (by decide +kernel), List.mem_of_getElem? (i := 109) (by decide +kernel)⟩
theorem lw_p2 : lw_okq (⟨"FlowCurves", "rowComesRound", "(II)Z"⟩, 10) := ⟨⟨by decide +kernel, by decide +kernel⟩, List.mem_of_getElem? (i := 16) (by decide +kernel), List.mem_of_getElem? (i := 129) (by decide +kernel), List.mem_of_getElem? (i := 130) (by decide +kernel)⟩
theorem lw_p3 : lw_okq (⟨"FlowCurves$Maker", "settled", "(II)LFlowCurves$Curve;"⟩, 3) := ⟨⟨by decide +kernel, by decide +kernel⟩, List.mem_of_getElem? (i := 52) (by decide +kernel), List.mem_of_getElem? (i := 137) (by decide +kernel), List.mem_of_getElem? (i := 138) (by decide +kernel)⟩
theorem lw_p4 : lw_okq (⟨"FlowCurves$Maker", "leastStep", "(II)I"⟩, 3) := ⟨⟨by decide +kernel, by decide +kernel⟩, List.mem_of_getElem? (i := 52) (by decide +kernel), List.mem_of_getElem? (i := 141) (by decide +kernel), List.mem_of_getElem? (i := 142) (by decide +kernel)⟩
theorem lw_p5 : lw_okq (⟨"FlowCurves$Maker", "alsoComesRoundBy", "(III)Z"⟩, 3) := ⟨⟨by decide +kernel, by decide +kernel⟩, List.mem_of_getElem? (i := 52) (by decide +kernel), List.mem_of_getElem? (i := 145) (by decide +kernel), List.mem_of_getElem? (i := 146) (by decide +kernel)⟩
theorem lw_p6 : lw_okq (⟨"FlowCurves", "kept", "(LFlowCurves$Curve;)I"⟩, 10) := ⟨⟨by decide +kernel, by decide +kernel⟩, List.mem_of_getElem? (i := 16) (by decide +kernel), List.mem_of_getElem? (i := 253) (by decide +kernel), List.mem_of_getElem? (i := 254) (by decide +kernel)⟩
theorem lw_p7 : lw_okq (⟨"FlowCurves", "curveNumbered", "(I)LFlowCurves$Curve;"⟩, 10) := ⟨⟨by decide +kernel, by decide +kernel⟩, List.mem_of_getElem? (i := 16) (by decide +kernel), List.mem_of_getElem? (i := 269) (by decide +kernel), List.mem_of_getElem? (i := 270) (by decide +kernel)⟩
theorem lw_p8 : lw_okq (⟨"FlowCurves$Maker", "laySideBySide", "(II)V"⟩, 3) := ⟨⟨by decide +kernel, by decide +kernel⟩, List.mem_of_getElem? (i := 52) (by decide +kernel), List.mem_of_getElem? (i := 307) (by decide +kernel), List.mem_of_getElem? (i := 308) (by decide +kernel)⟩
theorem lw_p9 : lw_okq (⟨"FlowCurves$Maker", "layRest", "(I)V"⟩, 3) := ⟨⟨by decide +kernel, by decide +kernel⟩, List.mem_of_getElem? (i := 52) (by decide +kernel), List.mem_of_getElem? (i := 317) (by decide +kernel), List.mem_of_getElem? (i := 318) (by decide +kernel)⟩
theorem lw_p10 : lw_okq (⟨"FlowCurves$Maker", "layBoth", "(III)V"⟩, 3) := ⟨⟨by decide +kernel, by decide +kernel⟩, List.mem_of_getElem? (i := 52) (by decide +kernel), List.mem_of_getElem? (i := 321) (by decide +kernel), List.mem_of_getElem? (i := 322) (by decide +kernel)⟩
theorem lw_p11 : lw_okq (⟨"FlowCurves$Maker", "leastTogether", "(III)J"⟩, 3) := ⟨⟨by decide +kernel, by decide +kernel⟩, List.mem_of_getElem? (i := 52) (by decide +kernel), List.mem_of_getElem? (i := 325) (by decide +kernel), List.mem_of_getElem? (i := 326) (by decide +kernel)⟩
theorem lw_p12 : lw_okq (⟨"FlowCurves$Maker", "layOff", "(II)V"⟩, 3) := ⟨⟨by decide +kernel, by decide +kernel⟩, List.mem_of_getElem? (i := 52) (by decide +kernel), List.mem_of_getElem? (i := 330) (by decide +kernel), List.mem_of_getElem? (i := 331) (by decide +kernel)⟩
theorem lw_p13 : lw_okq (⟨"FlowCurves$Maker", "comesRound", "(IIJ)Z"⟩, 3) := ⟨⟨by decide +kernel, by decide +kernel⟩, List.mem_of_getElem? (i := 52) (by decide +kernel), List.mem_of_getElem? (i := 338) (by decide +kernel), List.mem_of_getElem? (i := 339) (by decide +kernel)⟩
theorem lw_p14 : lw_okq (⟨"FlowCurves", "refusedAmount", "(I)J"⟩, 10) := ⟨⟨by decide +kernel, by decide +kernel⟩, List.mem_of_getElem? (i := 16) (by decide +kernel), List.mem_of_getElem? (i := 366) (by decide +kernel), List.mem_of_getElem? (i := 367) (by decide +kernel)⟩
theorem lw_p15 : lw_okq (⟨"FlowCurves", "grantedAmount", "(J)J"⟩, 10) := ⟨⟨by decide +kernel, by decide +kernel⟩, List.mem_of_getElem? (i := 16) (by decide +kernel), List.mem_of_getElem? (i := 398) (by decide +kernel), List.mem_of_getElem? (i := 399) (by decide +kernel)⟩
def lw_privs_1 : List (MethodName × Nat) := [(⟨"FlowCurves", "refused", "(I)I"⟩, 10), (⟨"FlowCurves", "granted", "(I)I"⟩, 10), (⟨"FlowCurves", "rowComesRound", "(II)Z"⟩, 10), (⟨"FlowCurves$Maker", "settled", "(II)LFlowCurves$Curve;"⟩, 3), (⟨"FlowCurves$Maker", "leastStep", "(II)I"⟩, 3), (⟨"FlowCurves$Maker", "alsoComesRoundBy", "(III)Z"⟩, 3), (⟨"FlowCurves", "kept", "(LFlowCurves$Curve;)I"⟩, 10), (⟨"FlowCurves", "curveNumbered", "(I)LFlowCurves$Curve;"⟩, 10), (⟨"FlowCurves$Maker", "laySideBySide", "(II)V"⟩, 3), (⟨"FlowCurves$Maker", "layRest", "(I)V"⟩, 3), (⟨"FlowCurves$Maker", "layBoth", "(III)V"⟩, 3), (⟨"FlowCurves$Maker", "leastTogether", "(III)J"⟩, 3), (⟨"FlowCurves$Maker", "layOff", "(II)V"⟩, 3), (⟨"FlowCurves$Maker", "comesRound", "(IIJ)Z"⟩, 3), (⟨"FlowCurves", "refusedAmount", "(I)J"⟩, 10), (⟨"FlowCurves", "grantedAmount", "(J)J"⟩, 10)]
theorem lw_r1 : ∀ q ∈ lw_privs_1, lw_okq q := List.forall_mem_cons.mpr ⟨lw_p0, List.forall_mem_cons.mpr ⟨lw_p1, List.forall_mem_cons.mpr ⟨lw_p2, List.forall_mem_cons.mpr ⟨lw_p3, List.forall_mem_cons.mpr ⟨lw_p4, List.forall_mem_cons.mpr ⟨lw_p5, List.forall_mem_cons.mpr ⟨lw_p6, List.forall_mem_cons.mpr ⟨lw_p7, List.forall_mem_cons.mpr ⟨lw_p8, List.forall_mem_cons.mpr ⟨lw_p9, List.forall_mem_cons.mpr ⟨lw_p10, List.forall_mem_cons.mpr ⟨lw_p11, List.forall_mem_cons.mpr ⟨lw_p12, List.forall_mem_cons.mpr ⟨lw_p13, List.forall_mem_cons.mpr ⟨lw_p14, List.forall_mem_cons.mpr ⟨lw_p15, fun _ h => absurd h List.not_mem_nil⟩⟩⟩⟩⟩⟩⟩⟩⟩⟩⟩⟩⟩⟩⟩⟩
theorem lw_p16 : lw_okq (⟨"FlowCurvesModel", "refuse", "(I)I"⟩, 15) := ⟨⟨by decide +kernel, by decide +kernel⟩, List.mem_of_getElem? (i := 605) (by decide +kernel), List.mem_of_getElem? (i := 665) (by decide +kernel), List.mem_of_getElem? (i := 666) (by decide +kernel)⟩
theorem lw_p17 : lw_okq (⟨"FlowCurvesModel", "fine", "(I)I"⟩, 15) := ⟨⟨by decide +kernel, by decide +kernel⟩, List.mem_of_getElem? (i := 605) (by decide +kernel), List.mem_of_getElem? (i := 669) (by decide +kernel), List.mem_of_getElem? (i := 670) (by decide +kernel)⟩
theorem lw_p18 : lw_okq (⟨"FlowCurvesModel", "settle", "(IJ)I"⟩, 15) := ⟨⟨by decide +kernel, by decide +kernel⟩, List.mem_of_getElem? (i := 605) (by decide +kernel), List.mem_of_getElem? (i := 691) (by decide +kernel), List.mem_of_getElem? (i := 692) (by decide +kernel)⟩
theorem lw_p19 : lw_okq (⟨"FlowCurvesModel", "comesRound", "(IJI)Z"⟩, 15) := ⟨⟨by decide +kernel, by decide +kernel⟩, List.mem_of_getElem? (i := 605) (by decide +kernel), List.mem_of_getElem? (i := 695) (by decide +kernel), List.mem_of_getElem? (i := 696) (by decide +kernel)⟩
theorem lw_p20 : lw_okq (⟨"FlowCurvesModel", "kindOf", "(I)I"⟩, 15) := ⟨⟨by decide +kernel, by decide +kernel⟩, List.mem_of_getElem? (i := 605) (by decide +kernel), List.mem_of_getElem? (i := 699) (by decide +kernel), List.mem_of_getElem? (i := 700) (by decide +kernel)⟩
theorem lw_p21 : lw_okq (⟨"FlowCurvesModel", "isCurve", "(I)Z"⟩, 15) := ⟨⟨by decide +kernel, by decide +kernel⟩, List.mem_of_getElem? (i := 605) (by decide +kernel), List.mem_of_getElem? (i := 712) (by decide +kernel), List.mem_of_getElem? (i := 713) (by decide +kernel)⟩
theorem lw_p22 : lw_okq (⟨"FlowCurvesModel", "together", "(II)I"⟩, 15) := ⟨⟨by decide +kernel, by decide +kernel⟩, List.mem_of_getElem? (i := 605) (by decide +kernel), List.mem_of_getElem? (i := 716) (by decide +kernel), List.mem_of_getElem? (i := 717) (by decide +kernel)⟩
theorem lw_p23 : lw_okq (⟨"FlowCurvesModel", "gainIn", "(II)J"⟩, 15) := ⟨⟨by decide +kernel, by decide +kernel⟩, List.mem_of_getElem? (i := 605) (by decide +kernel), List.mem_of_getElem? (i := 723) (by decide +kernel), List.mem_of_getElem? (i := 724) (by decide +kernel)⟩
theorem lw_p24 : lw_okq (⟨"FlowCurvesModel", "make", "(IIII)V"⟩, 15) := ⟨⟨by decide +kernel, by decide +kernel⟩, List.mem_of_getElem? (i := 605) (by decide +kernel), List.mem_of_getElem? (i := 727) (by decide +kernel), List.mem_of_getElem? (i := 728) (by decide +kernel)⟩
theorem lw_p25 : lw_okq (⟨"FlowCurvesModel", "value", "(IJ)J"⟩, 15) := ⟨⟨by decide +kernel, by decide +kernel⟩, List.mem_of_getElem? (i := 605) (by decide +kernel), List.mem_of_getElem? (i := 731) (by decide +kernel), List.mem_of_getElem? (i := 732) (by decide +kernel)⟩
theorem lw_p26 : lw_okq (⟨"FlowCurvesModel", "least", "(III)J"⟩, 15) := ⟨⟨by decide +kernel, by decide +kernel⟩, List.mem_of_getElem? (i := 605) (by decide +kernel), List.mem_of_getElem? (i := 735) (by decide +kernel), List.mem_of_getElem? (i := 736) (by decide +kernel)⟩
theorem lw_p27 : lw_okq (⟨"FlowCurvesModel", "most", "(IIII)J"⟩, 15) := ⟨⟨by decide +kernel, by decide +kernel⟩, List.mem_of_getElem? (i := 605) (by decide +kernel), List.mem_of_getElem? (i := 739) (by decide +kernel), List.mem_of_getElem? (i := 740) (by decide +kernel)⟩
theorem lw_p28 : lw_okq (⟨"FlowCurvesModel", "none", "(I)J"⟩, 15) := ⟨⟨by decide +kernel, by decide +kernel⟩, List.mem_of_getElem? (i := 605) (by decide +kernel), List.mem_of_getElem? (i := 761) (by decide +kernel), List.mem_of_getElem? (i := 762) (by decide +kernel)⟩
theorem lw_p29 : lw_okq (⟨"FlowCurvesModel", "fineLong", "(J)J"⟩, 15) := ⟨⟨by decide +kernel, by decide +kernel⟩, List.mem_of_getElem? (i := 605) (by decide +kernel), List.mem_of_getElem? (i := 766) (by decide +kernel), List.mem_of_getElem? (i := 767) (by decide +kernel)⟩
theorem lw_p30 : lw_okq (⟨"FlowCurvesModel", "isClosed", "(I)Z"⟩, 15) := ⟨⟨by decide +kernel, by decide +kernel⟩, List.mem_of_getElem? (i := 605) (by decide +kernel), List.mem_of_getElem? (i := 775) (by decide +kernel), List.mem_of_getElem? (i := 776) (by decide +kernel)⟩
theorem lw_p31 : lw_okq (⟨"FlowCurvesModel", "latest", "(II)I"⟩, 15) := ⟨⟨by decide +kernel, by decide +kernel⟩, List.mem_of_getElem? (i := 605) (by decide +kernel), List.mem_of_getElem? (i := 787) (by decide +kernel), List.mem_of_getElem? (i := 788) (by decide +kernel)⟩
def lw_privs_2 : List (MethodName × Nat) := [(⟨"FlowCurvesModel", "refuse", "(I)I"⟩, 15), (⟨"FlowCurvesModel", "fine", "(I)I"⟩, 15), (⟨"FlowCurvesModel", "settle", "(IJ)I"⟩, 15), (⟨"FlowCurvesModel", "comesRound", "(IJI)Z"⟩, 15), (⟨"FlowCurvesModel", "kindOf", "(I)I"⟩, 15), (⟨"FlowCurvesModel", "isCurve", "(I)Z"⟩, 15), (⟨"FlowCurvesModel", "together", "(II)I"⟩, 15), (⟨"FlowCurvesModel", "gainIn", "(II)J"⟩, 15), (⟨"FlowCurvesModel", "make", "(IIII)V"⟩, 15), (⟨"FlowCurvesModel", "value", "(IJ)J"⟩, 15), (⟨"FlowCurvesModel", "least", "(III)J"⟩, 15), (⟨"FlowCurvesModel", "most", "(IIII)J"⟩, 15), (⟨"FlowCurvesModel", "none", "(I)J"⟩, 15), (⟨"FlowCurvesModel", "fineLong", "(J)J"⟩, 15), (⟨"FlowCurvesModel", "isClosed", "(I)Z"⟩, 15), (⟨"FlowCurvesModel", "latest", "(II)I"⟩, 15)]
theorem lw_r2 : ∀ q ∈ lw_privs_2, lw_okq q := List.forall_mem_cons.mpr ⟨lw_p16, List.forall_mem_cons.mpr ⟨lw_p17, List.forall_mem_cons.mpr ⟨lw_p18, List.forall_mem_cons.mpr ⟨lw_p19, List.forall_mem_cons.mpr ⟨lw_p20, List.forall_mem_cons.mpr ⟨lw_p21, List.forall_mem_cons.mpr ⟨lw_p22, List.forall_mem_cons.mpr ⟨lw_p23, List.forall_mem_cons.mpr ⟨lw_p24, List.forall_mem_cons.mpr ⟨lw_p25, List.forall_mem_cons.mpr ⟨lw_p26, List.forall_mem_cons.mpr ⟨lw_p27, List.forall_mem_cons.mpr ⟨lw_p28, List.forall_mem_cons.mpr ⟨lw_p29, List.forall_mem_cons.mpr ⟨lw_p30, List.forall_mem_cons.mpr ⟨lw_p31, fun _ h => absurd h List.not_mem_nil⟩⟩⟩⟩⟩⟩⟩⟩⟩⟩⟩⟩⟩⟩⟩⟩
theorem lw_p32 : lw_okq (⟨"FlowCurvesModel", "spanOf", "(IJ)J"⟩, 15) := ⟨⟨by decide +kernel, by decide +kernel⟩, List.mem_of_getElem? (i := 605) (by decide +kernel), List.mem_of_getElem? (i := 799) (by decide +kernel), List.mem_of_getElem? (i := 800) (by decide +kernel)⟩
theorem lw_p33 : lw_okq (⟨"FlowCurvesModel", "came", "(I)J"⟩, 15) := ⟨⟨by decide +kernel, by decide +kernel⟩, List.mem_of_getElem? (i := 605) (by decide +kernel), List.mem_of_getElem? (i := 833) (by decide +kernel), List.mem_of_getElem? (i := 834) (by decide +kernel)⟩
theorem lw_p34 : lw_okq (⟨"FlowCurvesModel", "served", "(I)J"⟩, 15) := ⟨⟨by decide +kernel, by decide +kernel⟩, List.mem_of_getElem? (i := 605) (by decide +kernel), List.mem_of_getElem? (i := 837) (by decide +kernel), List.mem_of_getElem? (i := 838) (by decide +kernel)⟩
theorem lw_p35 : lw_okq (⟨"FlowCurvesModel", "lateAt", "(I)I"⟩, 15) := ⟨⟨by decide +kernel, by decide +kernel⟩, List.mem_of_getElem? (i := 605) (by decide +kernel), List.mem_of_getElem? (i := 845) (by decide +kernel), List.mem_of_getElem? (i := 846) (by decide +kernel)⟩
def lw_privs_3 : List (MethodName × Nat) := [(⟨"FlowCurvesModel", "spanOf", "(IJ)J"⟩, 15), (⟨"FlowCurvesModel", "came", "(I)J"⟩, 15), (⟨"FlowCurvesModel", "served", "(I)J"⟩, 15), (⟨"FlowCurvesModel", "lateAt", "(I)I"⟩, 15)]
theorem lw_r3 : ∀ q ∈ lw_privs_3, lw_okq q := List.forall_mem_cons.mpr ⟨lw_p32, List.forall_mem_cons.mpr ⟨lw_p33, List.forall_mem_cons.mpr ⟨lw_p34, List.forall_mem_cons.mpr ⟨lw_p35, fun _ h => absurd h List.not_mem_nil⟩⟩⟩⟩
def lw_privs : List (MethodName × Nat) := lw_privs_1 ++ (lw_privs_2 ++ (lw_privs_3))
def lw_tbl : List Cond := k2_sels lw_privs ++ tables_1
theorem lw_privs_ok : ∀ q ∈ lw_privs, lw_okq q := by
  show ∀ q ∈ lw_privs_1 ++ (lw_privs_2 ++ (lw_privs_3)), lw_okq q
  exact List.forall_mem_append.mpr ⟨lw_r1, List.forall_mem_append.mpr ⟨lw_r2, lw_r3⟩⟩
def RX0 : String := "FlowCurves$Burst"
def TX0 : u_T := fun k => match k with
  | 0 => ("FlowCurves$Curve", "start", "I", true)
  | 1 => ("FlowCurves$Curve", "step", "I", true)
  | 2 => ("FlowCurves$Curve", "gain", "I", true)
  | 3 => ("FlowCurves$Curve", "amounts", "[J", true)
  | _ => ("FlowCurves$Burst", "lead", "J", true)
def tyX0 : Nat → FieldType := fun k => match k with
  | 0 => .int
  | 1 => .int
  | 2 => .int
  | 3 => .array .long
  | _ => .long
abbrev wsX00 : List Cond := u_ws RX0 TX0 5
theorem nmX0 : ∀ a, a < 5 → ∀ b, b < 5 → a ≠ b → (TX0 a).2.1 ≠ (TX0 b).2.1 := by decide +kernel
theorem tyX0_ok : ∀ k, k < 5 → parseFieldDescriptor (TX0 k).2.2.1 = some (tyX0 k) := by decide +kernel
abbrev cX0_init : ByteArray := prog_2_method_1_code
def yX0_init : MethodName := ⟨RX0, "<init>", "(III[JJ)V"⟩
abbrev cX0_kind : ByteArray := prog_2_method_2_code
def yX0_kind : MethodName := ⟨RX0, "kind", "()I"⟩
abbrev cX0_asked : ByteArray := prog_2_method_3_code
def yX0_asked : MethodName := ⟨RX0, "asked", "(ILFlowCurves$Tally;)J"⟩
def RX1 : String := "FlowCurves$Curve"
def TX1 : u_T := fun k => match k with
  | 0 => ("FlowCurves$Curve", "start", "I", true)
  | 1 => ("FlowCurves$Curve", "step", "I", true)
  | 2 => ("FlowCurves$Curve", "gain", "I", true)
  | _ => ("FlowCurves$Curve", "amounts", "[J", true)
def tyX1 : Nat → FieldType := fun k => match k with
  | 0 => .int
  | 1 => .int
  | 2 => .int
  | _ => .array .long
abbrev wsX10 : List Cond := u_ws RX1 TX1 4
theorem nmX1 : ∀ a, a < 4 → ∀ b, b < 4 → a ≠ b → (TX1 a).2.1 ≠ (TX1 b).2.1 := by decide +kernel
theorem tyX1_ok : ∀ k, k < 4 → parseFieldDescriptor (TX1 k).2.2.1 = some (tyX1 k) := by decide +kernel
abbrev cX1_init : ByteArray := prog_3_method_1_code
def yX1_init : MethodName := ⟨RX1, "<init>", "(III[J)V"⟩
abbrev cX1_kind : ByteArray := prog_3_method_2_code
def yX1_kind : MethodName := ⟨RX1, "kind", "()I"⟩
abbrev cX1_asked : ByteArray := prog_3_method_3_code
def yX1_asked : MethodName := ⟨RX1, "asked", "(ILFlowCurves$Tally;)J"⟩
abbrev cX1_amount : ByteArray := prog_3_method_4_code
def yX1_amount : MethodName := ⟨RX1, "amount", "(I)J"⟩
abbrev cX1_gainIn : ByteArray := prog_3_method_5_code
def yX1_gainIn : MethodName := ⟨RX1, "gainIn", "(I)J"⟩
abbrev cX1_sharedByGainAndStep : ByteArray := prog_3_method_6_code
def yX1_sharedByGainAndStep : MethodName := ⟨RX1, "sharedByGainAndStep", "()I"⟩
abbrev cX1_firstReaching : ByteArray := prog_3_method_7_code
def yX1_firstReaching : MethodName := ⟨RX1, "firstReaching", "(JI)I"⟩
abbrev cX1_isClosed : ByteArray := prog_3_method_8_code
def yX1_isClosed : MethodName := ⟨RX1, "isClosed", "()Z"⟩
def RX2 : String := "FlowCurves$Late"
def TX2 : u_T := fun k => match k with
  | 0 => ("FlowCurves$Curve", "start", "I", true)
  | 1 => ("FlowCurves$Curve", "step", "I", true)
  | 2 => ("FlowCurves$Curve", "gain", "I", true)
  | _ => ("FlowCurves$Curve", "amounts", "[J", true)
def tyX2 : Nat → FieldType := fun k => match k with
  | 0 => .int
  | 1 => .int
  | 2 => .int
  | _ => .array .long
abbrev wsX20 : List Cond := u_ws RX2 TX2 4
theorem nmX2 : ∀ a, a < 4 → ∀ b, b < 4 → a ≠ b → (TX2 a).2.1 ≠ (TX2 b).2.1 := by decide +kernel
theorem tyX2_ok : ∀ k, k < 4 → parseFieldDescriptor (TX2 k).2.2.1 = some (tyX2 k) := by decide +kernel
abbrev cX2_init : ByteArray := prog_4_method_1_code
def yX2_init : MethodName := ⟨RX2, "<init>", "(III[J)V"⟩
abbrev cX2_kind : ByteArray := prog_4_method_2_code
def yX2_kind : MethodName := ⟨RX2, "kind", "()I"⟩
abbrev cX2_asked : ByteArray := prog_4_method_3_code
def yX2_asked : MethodName := ⟨RX2, "asked", "(ILFlowCurves$Tally;)J"⟩
def RX3 : String := "FlowCurves$Maker"
def TX3 : u_T := fun k => match k with
  | 0 => ("FlowCurves$Maker", "made", "[J", true)
  | 1 => ("FlowCurves$Maker", "one", "[J", true)
  | _ => ("FlowCurves$Maker", "other", "[J", true)
def tyX3 : Nat → FieldType := fun k => match k with
  | 0 => .array .long
  | 1 => .array .long
  | _ => .array .long
abbrev wsX30 : List Cond := u_ws RX3 TX3 3
theorem nmX3 : ∀ a, a < 3 → ∀ b, b < 3 → a ≠ b → (TX3 a).2.1 ≠ (TX3 b).2.1 := by decide +kernel
theorem tyX3_ok : ∀ k, k < 3 → parseFieldDescriptor (TX3 k).2.2.1 = some (tyX3 k) := by decide +kernel
abbrev cX3_init : ByteArray := prog_5_method_1_code
def yX3_init : MethodName := ⟨RX3, "<init>", "()V"⟩
abbrev cX3_fromRow : ByteArray := prog_5_method_2_code
def yX3_fromRow : MethodName := ⟨RX3, "fromRow", "([JIII)LFlowCurves$Curve;"⟩
abbrev cX3_straight : ByteArray := prog_5_method_3_code
def yX3_straight : MethodName := ⟨RX3, "straight", "(I)LFlowCurves$Curve;"⟩
abbrev cX3_multiplied : ByteArray := prog_5_method_4_code
def yX3_multiplied : MethodName := ⟨RX3, "multiplied", "(LFlowCurves$Curve;I)LFlowCurves$Curve;"⟩
abbrev cX3_delayed : ByteArray := prog_5_method_5_code
def yX3_delayed : MethodName := ⟨RX3, "delayed", "(LFlowCurves$Curve;I)LFlowCurves$Curve;"⟩
abbrev cX3_fromBoth : ByteArray := prog_5_method_6_code
def yX3_fromBoth : MethodName := ⟨RX3, "fromBoth", "(ILFlowCurves$Curve;LFlowCurves$Curve;I)LFlowCurves$Curve;"⟩
abbrev cX3_gainOf : ByteArray := prog_5_method_7_code
def yX3_gainOf : MethodName := ⟨RX3, "gainOf", "(IJJ)J"⟩
abbrev cX3_spread : ByteArray := prog_5_method_8_code
def yX3_spread : MethodName := ⟨RX3, "spread", "(LFlowCurves$Curve;[J)V"⟩
abbrev cX3_laySideBySide : ByteArray := prog_5_method_9_code
def yX3_laySideBySide : MethodName := ⟨RX3, "laySideBySide", "(II)V"⟩
abbrev cX3_layRest : ByteArray := prog_5_method_10_code
def yX3_layRest : MethodName := ⟨RX3, "layRest", "(I)V"⟩
abbrev cX3_layBoth : ByteArray := prog_5_method_11_code
def yX3_layBoth : MethodName := ⟨RX3, "layBoth", "(III)V"⟩
abbrev cX3_leastTogether : ByteArray := prog_5_method_12_code
def yX3_leastTogether : MethodName := ⟨RX3, "leastTogether", "(III)J"⟩
abbrev cX3_layOff : ByteArray := prog_5_method_13_code
def yX3_layOff : MethodName := ⟨RX3, "layOff", "(II)V"⟩
abbrev cX3_comesRound : ByteArray := prog_5_method_14_code
def yX3_comesRound : MethodName := ⟨RX3, "comesRound", "(IIJ)Z"⟩
abbrev cX3_settled : ByteArray := prog_5_method_15_code
def yX3_settled : MethodName := ⟨RX3, "settled", "(II)LFlowCurves$Curve;"⟩
abbrev cX3_leastStep : ByteArray := prog_5_method_16_code
def yX3_leastStep : MethodName := ⟨RX3, "leastStep", "(II)I"⟩
abbrev cX3_alsoComesRoundBy : ByteArray := prog_5_method_17_code
def yX3_alsoComesRoundBy : MethodName := ⟨RX3, "alsoComesRoundBy", "(III)Z"⟩
abbrev cX3_ofItsKind : ByteArray := prog_5_method_18_code
def yX3_ofItsKind : MethodName := ⟨RX3, "ofItsKind", "(III[J)LFlowCurves$Curve;"⟩
def RX4 : String := "FlowCurves$Pairs"
def TX4 : u_T := fun k => match k with
  | _ => ("", "", "", false)
def tyX4 : Nat → FieldType := fun k => match k with
  | _ => .int
abbrev wsX40 : List Cond := u_ws RX4 TX4 0
theorem nmX4 : ∀ a, a < 0 → ∀ b, b < 0 → a ≠ b → (TX4 a).2.1 ≠ (TX4 b).2.1 := by decide +kernel
theorem tyX4_ok : ∀ k, k < 0 → parseFieldDescriptor (TX4 k).2.2.1 = some (tyX4 k) := by decide +kernel
abbrev cX4_commonStep : ByteArray := prog_6_method_2_code
def yX4_commonStep : MethodName := ⟨RX4, "commonStep", "(LFlowCurves$Curve;LFlowCurves$Curve;)I"⟩
abbrev cX4_outruns : ByteArray := prog_6_method_3_code
def yX4_outruns : MethodName := ⟨RX4, "outruns", "(LFlowCurves$Curve;LFlowCurves$Curve;I)Z"⟩
abbrev cX4_settledSpan : ByteArray := prog_6_method_4_code
def yX4_settledSpan : MethodName := ⟨RX4, "settledSpan", "(LFlowCurves$Curve;LFlowCurves$Curve;I)I"⟩
abbrev cX4_firstUnlike : ByteArray := prog_6_method_5_code
def yX4_firstUnlike : MethodName := ⟨RX4, "firstUnlike", "(LFlowCurves$Curve;LFlowCurves$Curve;I)I"⟩
abbrev cX4_greatestLead : ByteArray := prog_6_method_6_code
def yX4_greatestLead : MethodName := ⟨RX4, "greatestLead", "(LFlowCurves$Curve;LFlowCurves$Curve;I)J"⟩
abbrev cX4_longestWait : ByteArray := prog_6_method_7_code
def yX4_longestWait : MethodName := ⟨RX4, "longestWait", "(LFlowCurves$Curve;LFlowCurves$Curve;I)I"⟩
def RX5 : String := "FlowCurves$Ray"
def TX5 : u_T := fun k => match k with
  | 0 => ("FlowCurves$Curve", "start", "I", true)
  | 1 => ("FlowCurves$Curve", "step", "I", true)
  | 2 => ("FlowCurves$Curve", "gain", "I", true)
  | _ => ("FlowCurves$Curve", "amounts", "[J", true)
def tyX5 : Nat → FieldType := fun k => match k with
  | 0 => .int
  | 1 => .int
  | 2 => .int
  | _ => .array .long
abbrev wsX50 : List Cond := u_ws RX5 TX5 4
theorem nmX5 : ∀ a, a < 4 → ∀ b, b < 4 → a ≠ b → (TX5 a).2.1 ≠ (TX5 b).2.1 := by decide +kernel
theorem tyX5_ok : ∀ k, k < 4 → parseFieldDescriptor (TX5 k).2.2.1 = some (tyX5 k) := by decide +kernel
abbrev cX5_init : ByteArray := prog_7_method_1_code
def yX5_init : MethodName := ⟨RX5, "<init>", "(III[J)V"⟩
abbrev cX5_kind : ByteArray := prog_7_method_2_code
def yX5_kind : MethodName := ⟨RX5, "kind", "()I"⟩
abbrev cX5_asked : ByteArray := prog_7_method_3_code
def yX5_asked : MethodName := ⟨RX5, "asked", "(ILFlowCurves$Tally;)J"⟩
def RX6 : String := "FlowCurves$Run"
def TX6 : u_T := fun k => match k with
  | 0 => ("FlowCurves$Run", "came", "[J", true)
  | _ => ("FlowCurves$Run", "steps", "I", false)
def tyX6 : Nat → FieldType := fun k => match k with
  | 0 => .array .long
  | _ => .int
abbrev wsX60 : List Cond := u_ws RX6 TX6 2
theorem nmX6 : ∀ a, a < 2 → ∀ b, b < 2 → a ≠ b → (TX6 a).2.1 ≠ (TX6 b).2.1 := by decide +kernel
theorem tyX6_ok : ∀ k, k < 2 → parseFieldDescriptor (TX6 k).2.2.1 = some (tyX6 k) := by decide +kernel
abbrev cX6_init : ByteArray := prog_8_method_1_code
def yX6_init : MethodName := ⟨RX6, "<init>", "()V"⟩
abbrev cX6_isFull : ByteArray := prog_8_method_2_code
def yX6_isFull : MethodName := ⟨RX6, "isFull", "()Z"⟩
abbrev cX6_add : ByteArray := prog_8_method_3_code
def yX6_add : MethodName := ⟨RX6, "add", "(J)V"⟩
abbrev cX6_hardestStep : ByteArray := prog_8_method_4_code
def yX6_hardestStep : MethodName := ⟨RX6, "hardestStep", "(LFlowCurves$Curve;I)J"⟩
abbrev cX6_canFollow : ByteArray := prog_8_method_5_code
def yX6_canFollow : MethodName := ⟨RX6, "canFollow", "(LFlowCurves$Curve;I)Z"⟩
abbrev cX6_follow : ByteArray := prog_8_method_6_code
def yX6_follow : MethodName := ⟨RX6, "follow", "(LFlowCurves$Curve;I)V"⟩
abbrev cX6_arrived : ByteArray := prog_8_method_7_code
def yX6_arrived : MethodName := ⟨RX6, "arrived", "(I)J"⟩
abbrev cX6_passed : ByteArray := prog_8_method_8_code
def yX6_passed : MethodName := ⟨RX6, "passed", "(LFlowCurves$Curve;I)J"⟩
abbrev cX6_held : ByteArray := prog_8_method_9_code
def yX6_held : MethodName := ⟨RX6, "held", "(LFlowCurves$Curve;I)J"⟩
abbrev cX6_lateness : ByteArray := prog_8_method_10_code
def yX6_lateness : MethodName := ⟨RX6, "lateness", "(LFlowCurves$Curve;I)I"⟩
abbrev cX6_greatestHeld : ByteArray := prog_8_method_11_code
def yX6_greatestHeld : MethodName := ⟨RX6, "greatestHeld", "(LFlowCurves$Curve;)J"⟩
abbrev cX6_greatestLateness : ByteArray := prog_8_method_12_code
def yX6_greatestLateness : MethodName := ⟨RX6, "greatestLateness", "(LFlowCurves$Curve;)I"⟩
abbrev cX6_staysWithin : ByteArray := prog_8_method_13_code
def yX6_staysWithin : MethodName := ⟨RX6, "staysWithin", "(LFlowCurves$Curve;)Z"⟩
def RX7 : String := "FlowCurves$Stair"
def TX7 : u_T := fun k => match k with
  | 0 => ("FlowCurves$Curve", "start", "I", true)
  | 1 => ("FlowCurves$Curve", "step", "I", true)
  | 2 => ("FlowCurves$Curve", "gain", "I", true)
  | _ => ("FlowCurves$Curve", "amounts", "[J", true)
def tyX7 : Nat → FieldType := fun k => match k with
  | 0 => .int
  | 1 => .int
  | 2 => .int
  | _ => .array .long
abbrev wsX70 : List Cond := u_ws RX7 TX7 4
theorem nmX7 : ∀ a, a < 4 → ∀ b, b < 4 → a ≠ b → (TX7 a).2.1 ≠ (TX7 b).2.1 := by decide +kernel
theorem tyX7_ok : ∀ k, k < 4 → parseFieldDescriptor (TX7 k).2.2.1 = some (tyX7 k) := by decide +kernel
abbrev cX7_init : ByteArray := prog_9_method_1_code
def yX7_init : MethodName := ⟨RX7, "<init>", "(III[J)V"⟩
abbrev cX7_kind : ByteArray := prog_9_method_2_code
def yX7_kind : MethodName := ⟨RX7, "kind", "()I"⟩
abbrev cX7_asked : ByteArray := prog_9_method_3_code
def yX7_asked : MethodName := ⟨RX7, "asked", "(ILFlowCurves$Tally;)J"⟩
def RX8 : String := "FlowCurves$Tally"
def TX8 : u_T := fun k => match k with
  | _ => ("FlowCurves$Tally", "marks", "[I", true)
def tyX8 : Nat → FieldType := fun k => match k with
  | _ => .array .int
abbrev wsX80 : List Cond := u_ws RX8 TX8 1
theorem nmX8 : ∀ a, a < 1 → ∀ b, b < 1 → a ≠ b → (TX8 a).2.1 ≠ (TX8 b).2.1 := by decide +kernel
theorem tyX8_ok : ∀ k, k < 1 → parseFieldDescriptor (TX8 k).2.2.1 = some (tyX8 k) := by decide +kernel
abbrev cX8_init : ByteArray := prog_10_method_1_code
def yX8_init : MethodName := ⟨RX8, "<init>", "()V"⟩
abbrev cX8_mark : ByteArray := prog_10_method_2_code
def yX8_mark : MethodName := ⟨RX8, "mark", "(I)V"⟩
abbrev cX8_marks : ByteArray := prog_10_method_3_code
def yX8_marks : MethodName := ⟨RX8, "marks", "(I)I"⟩
def RX9 : String := "FlowCurves"
def TX9 : u_T := fun k => match k with
  | 0 => ("FlowCurves", "curves", "[LFlowCurves$Curve;", true)
  | 1 => ("FlowCurves", "curveCount", "I", false)
  | 2 => ("FlowCurves", "mayUndo", "Z", false)
  | 3 => ("FlowCurves", "row", "[J", true)
  | 4 => ("FlowCurves", "rowCount", "I", false)
  | 5 => ("FlowCurves", "run", "LFlowCurves$Run;", true)
  | 6 => ("FlowCurves", "server", "I", false)
  | 7 => ("FlowCurves", "tally", "LFlowCurves$Tally;", true)
  | 8 => ("FlowCurves", "maker", "LFlowCurves$Maker;", true)
  | _ => ("FlowCurves", "latest", "I", false)
def tyX9 : Nat → FieldType := fun k => match k with
  | 0 => .array (.object "FlowCurves$Curve")
  | 1 => .int
  | 2 => .boolean
  | 3 => .array .long
  | 4 => .int
  | 5 => .object "FlowCurves$Run"
  | 6 => .int
  | 7 => .object "FlowCurves$Tally"
  | 8 => .object "FlowCurves$Maker"
  | _ => .int
abbrev wsX90 : List Cond := u_ws RX9 TX9 10
theorem nmX9 : ∀ a, a < 10 → ∀ b, b < 10 → a ≠ b → (TX9 a).2.1 ≠ (TX9 b).2.1 := by decide +kernel
theorem tyX9_ok : ∀ k, k < 10 → parseFieldDescriptor (TX9 k).2.2.1 = some (tyX9 k) := by decide +kernel
abbrev cX9_init : ByteArray := prog_1_method_1_code
def yX9_init : MethodName := ⟨RX9, "<init>", "()V"⟩
abbrev cX9_put : ByteArray := prog_1_method_2_code
def yX9_put : MethodName := ⟨RX9, "put", "(J)I"⟩
abbrev cX9_draw : ByteArray := prog_1_method_3_code
def yX9_draw : MethodName := ⟨RX9, "draw", "(III)I"⟩
abbrev cX9_drop : ByteArray := prog_1_method_4_code
def yX9_drop : MethodName := ⟨RX9, "drop", "()I"⟩
abbrev cX9_curve : ByteArray := prog_1_method_5_code
def yX9_curve : MethodName := ⟨RX9, "curve", "(II)I"⟩
abbrev cX9_ray : ByteArray := prog_1_method_6_code
def yX9_ray : MethodName := ⟨RX9, "ray", "(I)I"⟩
abbrev cX9_of : ByteArray := prog_1_method_7_code
def yX9_of : MethodName := ⟨RX9, "of", "(III)I"⟩
abbrev cX9_times : ByteArray := prog_1_method_8_code
def yX9_times : MethodName := ⟨RX9, "times", "(II)I"⟩
abbrev cX9_shift : ByteArray := prog_1_method_9_code
def yX9_shift : MethodName := ⟨RX9, "shift", "(II)I"⟩
abbrev cX9_undo : ByteArray := prog_1_method_10_code
def yX9_undo : MethodName := ⟨RX9, "undo", "()I"⟩
abbrev cX9_at : ByteArray := prog_1_method_11_code
def yX9_at : MethodName := ⟨RX9, "at", "(II)J"⟩
abbrev cX9_about : ByteArray := prog_1_method_12_code
def yX9_about : MethodName := ⟨RX9, "about", "(II)I"⟩
abbrev cX9_rate : ByteArray := prog_1_method_13_code
def yX9_rate : MethodName := ⟨RX9, "rate", "(II)I"⟩
abbrev cX9_unlike : ByteArray := prog_1_method_14_code
def yX9_unlike : MethodName := ⟨RX9, "unlike", "(II)I"⟩
abbrev cX9_below : ByteArray := prog_1_method_15_code
def yX9_below : MethodName := ⟨RX9, "below", "(II)I"⟩
abbrev cX9_first : ByteArray := prog_1_method_16_code
def yX9_first : MethodName := ⟨RX9, "first", "(IJ)I"⟩
abbrev cX9_heap : ByteArray := prog_1_method_17_code
def yX9_heap : MethodName := ⟨RX9, "heap", "(II)J"⟩
abbrev cX9_wait : ByteArray := prog_1_method_18_code
def yX9_wait : MethodName := ⟨RX9, "wait", "(II)I"⟩
abbrev cX9_come : ByteArray := prog_1_method_19_code
def yX9_come : MethodName := ⟨RX9, "come", "(I)I"⟩
abbrev cX9_hardest : ByteArray := prog_1_method_20_code
def yX9_hardest : MethodName := ⟨RX9, "hardest", "(II)I"⟩
abbrev cX9_stop : ByteArray := prog_1_method_21_code
def yX9_stop : MethodName := ⟨RX9, "stop", "()I"⟩
abbrev cX9_serve : ByteArray := prog_1_method_22_code
def yX9_serve : MethodName := ⟨RX9, "serve", "(I)I"⟩
abbrev cX9_moved : ByteArray := prog_1_method_23_code
def yX9_moved : MethodName := ⟨RX9, "moved", "(II)J"⟩
abbrev cX9_late : ByteArray := prog_1_method_24_code
def yX9_late : MethodName := ⟨RX9, "late", "(I)I"⟩
abbrev cX9_mostHeld : ByteArray := prog_1_method_25_code
def yX9_mostHeld : MethodName := ⟨RX9, "mostHeld", "()J"⟩
abbrev cX9_mostLate : ByteArray := prog_1_method_26_code
def yX9_mostLate : MethodName := ⟨RX9, "mostLate", "()I"⟩
abbrev cX9_keeps : ByteArray := prog_1_method_27_code
def yX9_keeps : MethodName := ⟨RX9, "keeps", "(I)I"⟩
abbrev cX9_count : ByteArray := prog_1_method_28_code
def yX9_count : MethodName := ⟨RX9, "count", "(I)I"⟩
abbrev cX9_trace : ByteArray := prog_1_method_29_code
def yX9_trace : MethodName := ⟨RX9, "trace", "(I)I"⟩
abbrev cX9_status : ByteArray := prog_1_method_30_code
def yX9_status : MethodName := ⟨RX9, "status", "()I"⟩
abbrev cX9_clear : ByteArray := prog_1_method_31_code
def yX9_clear : MethodName := ⟨RX9, "clear", "()I"⟩
abbrev cX9_refused : ByteArray := prog_1_method_32_code
def yX9_refused : MethodName := ⟨RX9, "refused", "(I)I"⟩
abbrev cX9_refusedAmount : ByteArray := prog_1_method_33_code
def yX9_refusedAmount : MethodName := ⟨RX9, "refusedAmount", "(I)J"⟩
abbrev cX9_granted : ByteArray := prog_1_method_34_code
def yX9_granted : MethodName := ⟨RX9, "granted", "(I)I"⟩
abbrev cX9_grantedAmount : ByteArray := prog_1_method_35_code
def yX9_grantedAmount : MethodName := ⟨RX9, "grantedAmount", "(J)J"⟩
abbrev cX9_curveNumbered : ByteArray := prog_1_method_36_code
def yX9_curveNumbered : MethodName := ⟨RX9, "curveNumbered", "(I)LFlowCurves$Curve;"⟩
abbrev cX9_kept : ByteArray := prog_1_method_37_code
def yX9_kept : MethodName := ⟨RX9, "kept", "(LFlowCurves$Curve;)I"⟩
abbrev cX9_rowComesRound : ByteArray := prog_1_method_38_code
def yX9_rowComesRound : MethodName := ⟨RX9, "rowComesRound", "(II)Z"⟩
def RX10 : String := "FlowCurvesModel"
def TX10 : u_T := fun k => match k with
  | 0 => ("FlowCurvesModel", "curves", "I", false)
  | 1 => ("FlowCurvesModel", "start", "[I", true)
  | 2 => ("FlowCurvesModel", "step", "[I", true)
  | 3 => ("FlowCurvesModel", "gain", "[J", true)
  | 4 => ("FlowCurvesModel", "kind", "[I", true)
  | 5 => ("FlowCurvesModel", "amount", "[J", true)
  | 6 => ("FlowCurvesModel", "mayUndo", "Z", false)
  | 7 => ("FlowCurvesModel", "row", "[J", true)
  | 8 => ("FlowCurvesModel", "rowSize", "I", false)
  | 9 => ("FlowCurvesModel", "come", "[J", true)
  | 10 => ("FlowCurvesModel", "steps", "I", false)
  | 11 => ("FlowCurvesModel", "server", "I", false)
  | 12 => ("FlowCurvesModel", "asked", "[I", true)
  | 13 => ("FlowCurvesModel", "status", "I", false)
  | _ => ("FlowCurvesModel", "made", "[J", true)
def tyX10 : Nat → FieldType := fun k => match k with
  | 0 => .int
  | 1 => .array .int
  | 2 => .array .int
  | 3 => .array .long
  | 4 => .array .int
  | 5 => .array .long
  | 6 => .boolean
  | 7 => .array .long
  | 8 => .int
  | 9 => .array .long
  | 10 => .int
  | 11 => .int
  | 12 => .array .int
  | 13 => .int
  | _ => .array .long
abbrev wsX100 : List Cond := u_ws RX10 TX10 15
theorem nmX10 : ∀ a, a < 15 → ∀ b, b < 15 → a ≠ b → (TX10 a).2.1 ≠ (TX10 b).2.1 := by decide +kernel
theorem tyX10_ok : ∀ k, k < 15 → parseFieldDescriptor (TX10 k).2.2.1 = some (tyX10 k) := by decide +kernel
abbrev cX10_init : ByteArray := prog_12_method_1_code
def yX10_init : MethodName := ⟨RX10, "<init>", "()V"⟩
abbrev cX10_in : ByteArray := prog_12_method_2_code
def yX10_in : MethodName := ⟨RX10, "in", "(JJJ)Z"⟩
abbrev cX10_refuse : ByteArray := prog_12_method_3_code
def yX10_refuse : MethodName := ⟨RX10, "refuse", "(I)I"⟩
abbrev cX10_fine : ByteArray := prog_12_method_4_code
def yX10_fine : MethodName := ⟨RX10, "fine", "(I)I"⟩
abbrev cX10_fineLong : ByteArray := prog_12_method_5_code
def yX10_fineLong : MethodName := ⟨RX10, "fineLong", "(J)J"⟩
abbrev cX10_none : ByteArray := prog_12_method_6_code
def yX10_none : MethodName := ⟨RX10, "none", "(I)J"⟩
abbrev cX10_isCurve : ByteArray := prog_12_method_7_code
def yX10_isCurve : MethodName := ⟨RX10, "isCurve", "(I)Z"⟩
abbrev cX10_value : ByteArray := prog_12_method_8_code
def yX10_value : MethodName := ⟨RX10, "value", "(IJ)J"⟩
abbrev cX10_comesRound : ByteArray := prog_12_method_9_code
def yX10_comesRound : MethodName := ⟨RX10, "comesRound", "(IJI)Z"⟩
abbrev cX10_kindOf : ByteArray := prog_12_method_10_code
def yX10_kindOf : MethodName := ⟨RX10, "kindOf", "(I)I"⟩
abbrev cX10_settle : ByteArray := prog_12_method_11_code
def yX10_settle : MethodName := ⟨RX10, "settle", "(IJ)I"⟩
abbrev cX10_put : ByteArray := prog_12_method_12_code
def yX10_put : MethodName := ⟨RX10, "put", "(J)I"⟩
abbrev cX10_draw : ByteArray := prog_12_method_13_code
def yX10_draw : MethodName := ⟨RX10, "draw", "(III)I"⟩
abbrev cX10_drop : ByteArray := prog_12_method_14_code
def yX10_drop : MethodName := ⟨RX10, "drop", "()I"⟩
abbrev cX10_curve : ByteArray := prog_12_method_15_code
def yX10_curve : MethodName := ⟨RX10, "curve", "(II)I"⟩
abbrev cX10_ray : ByteArray := prog_12_method_16_code
def yX10_ray : MethodName := ⟨RX10, "ray", "(I)I"⟩
abbrev cX10_divisor : ByteArray := prog_12_method_17_code
def yX10_divisor : MethodName := ⟨RX10, "divisor", "(II)I"⟩
abbrev cX10_together : ByteArray := prog_12_method_18_code
def yX10_together : MethodName := ⟨RX10, "together", "(II)I"⟩
abbrev cX10_gainIn : ByteArray := prog_12_method_19_code
def yX10_gainIn : MethodName := ⟨RX10, "gainIn", "(II)J"⟩
abbrev cX10_least : ByteArray := prog_12_method_20_code
def yX10_least : MethodName := ⟨RX10, "least", "(III)J"⟩
abbrev cX10_most : ByteArray := prog_12_method_21_code
def yX10_most : MethodName := ⟨RX10, "most", "(IIII)J"⟩
abbrev cX10_make : ByteArray := prog_12_method_22_code
def yX10_make : MethodName := ⟨RX10, "make", "(IIII)V"⟩
abbrev cX10_of : ByteArray := prog_12_method_23_code
def yX10_of : MethodName := ⟨RX10, "of", "(III)I"⟩
abbrev cX10_times : ByteArray := prog_12_method_24_code
def yX10_times : MethodName := ⟨RX10, "times", "(II)I"⟩
abbrev cX10_shift : ByteArray := prog_12_method_25_code
def yX10_shift : MethodName := ⟨RX10, "shift", "(II)I"⟩
abbrev cX10_undo : ByteArray := prog_12_method_26_code
def yX10_undo : MethodName := ⟨RX10, "undo", "()I"⟩
abbrev cX10_at : ByteArray := prog_12_method_27_code
def yX10_at : MethodName := ⟨RX10, "at", "(II)J"⟩
abbrev cX10_isClosed : ByteArray := prog_12_method_28_code
def yX10_isClosed : MethodName := ⟨RX10, "isClosed", "(I)Z"⟩
abbrev cX10_about : ByteArray := prog_12_method_29_code
def yX10_about : MethodName := ⟨RX10, "about", "(II)I"⟩
abbrev cX10_rate : ByteArray := prog_12_method_30_code
def yX10_rate : MethodName := ⟨RX10, "rate", "(II)I"⟩
abbrev cX10_latest : ByteArray := prog_12_method_31_code
def yX10_latest : MethodName := ⟨RX10, "latest", "(II)I"⟩
abbrev cX10_unlike : ByteArray := prog_12_method_32_code
def yX10_unlike : MethodName := ⟨RX10, "unlike", "(II)I"⟩
abbrev cX10_below : ByteArray := prog_12_method_33_code
def yX10_below : MethodName := ⟨RX10, "below", "(II)I"⟩
abbrev cX10_spanOf : ByteArray := prog_12_method_34_code
def yX10_spanOf : MethodName := ⟨RX10, "spanOf", "(IJ)J"⟩
abbrev cX10_first : ByteArray := prog_12_method_35_code
def yX10_first : MethodName := ⟨RX10, "first", "(IJ)I"⟩
abbrev cX10_heap : ByteArray := prog_12_method_36_code
def yX10_heap : MethodName := ⟨RX10, "heap", "(II)J"⟩
abbrev cX10_wait : ByteArray := prog_12_method_37_code
def yX10_wait : MethodName := ⟨RX10, "wait", "(II)I"⟩
abbrev cX10_come : ByteArray := prog_12_method_38_code
def yX10_come : MethodName := ⟨RX10, "come", "(I)I"⟩
abbrev cX10_hardest : ByteArray := prog_12_method_39_code
def yX10_hardest : MethodName := ⟨RX10, "hardest", "(II)I"⟩
abbrev cX10_stop : ByteArray := prog_12_method_40_code
def yX10_stop : MethodName := ⟨RX10, "stop", "()I"⟩
abbrev cX10_serve : ByteArray := prog_12_method_41_code
def yX10_serve : MethodName := ⟨RX10, "serve", "(I)I"⟩
abbrev cX10_came : ByteArray := prog_12_method_42_code
def yX10_came : MethodName := ⟨RX10, "came", "(I)J"⟩
abbrev cX10_served : ByteArray := prog_12_method_43_code
def yX10_served : MethodName := ⟨RX10, "served", "(I)J"⟩
abbrev cX10_moved : ByteArray := prog_12_method_44_code
def yX10_moved : MethodName := ⟨RX10, "moved", "(II)J"⟩
abbrev cX10_lateAt : ByteArray := prog_12_method_45_code
def yX10_lateAt : MethodName := ⟨RX10, "lateAt", "(I)I"⟩
abbrev cX10_late : ByteArray := prog_12_method_46_code
def yX10_late : MethodName := ⟨RX10, "late", "(I)I"⟩
abbrev cX10_mostHeld : ByteArray := prog_12_method_47_code
def yX10_mostHeld : MethodName := ⟨RX10, "mostHeld", "()J"⟩
abbrev cX10_mostLate : ByteArray := prog_12_method_48_code
def yX10_mostLate : MethodName := ⟨RX10, "mostLate", "()I"⟩
abbrev cX10_keeps : ByteArray := prog_12_method_49_code
def yX10_keeps : MethodName := ⟨RX10, "keeps", "(I)I"⟩
abbrev cX10_count : ByteArray := prog_12_method_50_code
def yX10_count : MethodName := ⟨RX10, "count", "(I)I"⟩
abbrev cX10_trace : ByteArray := prog_12_method_51_code
def yX10_trace : MethodName := ⟨RX10, "trace", "(I)I"⟩
abbrev cX10_status : ByteArray := prog_12_method_52_code
def yX10_status : MethodName := ⟨RX10, "status", "()I"⟩
abbrev cX10_clear : ByteArray := prog_12_method_53_code
def yX10_clear : MethodName := ⟨RX10, "clear", "()I"⟩
def RJx8e188 : String := "java/lang/Cloneable"
def TJx8e188 : u_T := fun k => match k with
  | _ => ("", "", "", false)
def tyJx8e188 : Nat → FieldType := fun k => match k with
  | _ => .int
abbrev wsJx8e1880 : List Cond := u_ws RJx8e188 TJx8e188 0
theorem nmJx8e188 : ∀ a, a < 0 → ∀ b, b < 0 → a ≠ b → (TJx8e188 a).2.1 ≠ (TJx8e188 b).2.1 := by decide +kernel
theorem tyJx8e188_ok : ∀ k, k < 0 → parseFieldDescriptor (TJx8e188 k).2.2.1 = some (tyJx8e188 k) := by decide +kernel
def RJ9 : String := "java/lang/Math"
def TJ9 : u_T := fun k => match k with
  | _ => ("", "", "", false)
def tyJ9 : Nat → FieldType := fun k => match k with
  | _ => .int
abbrev wsJ90 : List Cond := u_ws RJ9 TJ9 0
theorem nmJ9 : ∀ a, a < 0 → ∀ b, b < 0 → a ≠ b → (TJ9 a).2.1 ≠ (TJ9 b).2.1 := by decide +kernel
theorem tyJ9_ok : ∀ k, k < 0 → parseFieldDescriptor (TJ9 k).2.2.1 = some (tyJ9 k) := by decide +kernel
abbrev cJ9_max_7cf53 : ByteArray := prog_14_method_65_code
def yJ9_max_7cf53 : MethodName := ⟨RJ9, "max", "(II)I"⟩
abbrev cJ9_max_f86c9 : ByteArray := prog_14_method_66_code
def yJ9_max_f86c9 : MethodName := ⟨RJ9, "max", "(JJ)J"⟩
abbrev cJ9_min_7cf53 : ByteArray := prog_14_method_69_code
def yJ9_min_7cf53 : MethodName := ⟨RJ9, "min", "(II)I"⟩
abbrev cJ9_min_f86c9 : ByteArray := prog_14_method_70_code
def yJ9_min_f86c9 : MethodName := ⟨RJ9, "min", "(JJ)J"⟩
def RJ10 : String := "java/lang/System"
def TJ10 : u_T := fun k => match k with
  | _ => ("", "", "", false)
def tyJ10 : Nat → FieldType := fun k => match k with
  | _ => .int
abbrev wsJ100 : List Cond := u_ws RJ10 TJ10 0
theorem nmJ10 : ∀ a, a < 0 → ∀ b, b < 0 → a ≠ b → (TJ10 a).2.1 ≠ (TJ10 b).2.1 := by decide +kernel
theorem tyJ10_ok : ∀ k, k < 0 → parseFieldDescriptor (TJ10 k).2.2.1 = some (tyJ10 k) := by decide +kernel
def RJ7 : String := "java/util/Arrays"
def TJ7 : u_T := fun k => match k with
  | _ => ("", "", "", false)
def tyJ7 : Nat → FieldType := fun k => match k with
  | _ => .int
abbrev wsJ70 : List Cond := u_ws RJ7 TJ7 0
theorem nmJ7 : ∀ a, a < 0 → ∀ b, b < 0 → a ≠ b → (TJ7 a).2.1 ≠ (TJ7 b).2.1 := by decide +kernel
theorem tyJ7_ok : ∀ k, k < 0 → parseFieldDescriptor (TJ7 k).2.2.1 = some (tyJ7 k) := by decide +kernel
abbrev cJ7_copyOf_c38d5 : ByteArray := prog_16_method_124_code
def yJ7_copyOf_c38d5 : MethodName := ⟨RJ7, "copyOf", "([JI)[J"⟩
def RL : String := "FlowCurvesLaw"
abbrev cL_law : ByteArray := code
def yL_law : MethodName := ⟨RL, "law", "([I)Z"⟩
abbrev vwCl : List vw_C := [(RX0, TX0, 5), (RX1, TX1, 4), (RX2, TX2, 4), (RX3, TX3, 3), (RX5, TX5, 4), (RX6, TX6, 2), (RX7, TX7, 4), (RX8, TX8, 1), (RX9, TX9, 10), (RX10, TX10, 15)]
set_option maxRecDepth 100000 in
def lw_ok : List Cond := lw_tbl.filter goodWord
set_option maxRecDepth 100000 in
theorem lw_okI (i : Nat) {w : Cond} (h : lw_tbl[i]? = some w) (hg : goodWord w = true) : w ∈ lw_ok := List.mem_filter.mpr ⟨List.mem_of_getElem? h, hg⟩
set_option maxRecDepth 100000 in
theorem lw_ok_good : ∀ w ∈ lw_ok, goodWord w = true := fun w h => (List.mem_filter.mp h).2
set_option maxRecDepth 100000 in
theorem lw_ok_tbl : ∀ w ∈ lw_ok, w ∈ lw_tbl := fun w h => (List.mem_filter.mp h).1
set_option maxRecDepth 100000 in
theorem inX0 : ∀ w ∈ wsX00, w ∈ lw_ok := by decide +kernel
set_option maxRecDepth 100000 in
theorem inX1 : ∀ w ∈ wsX10, w ∈ lw_ok := by decide +kernel
set_option maxRecDepth 100000 in
theorem inX2 : ∀ w ∈ wsX20, w ∈ lw_ok := by decide +kernel
set_option maxRecDepth 100000 in
theorem inX3 : ∀ w ∈ wsX30, w ∈ lw_ok := by decide +kernel
set_option maxRecDepth 100000 in
theorem inX5 : ∀ w ∈ wsX50, w ∈ lw_ok := by decide +kernel
set_option maxRecDepth 100000 in
theorem inX6 : ∀ w ∈ wsX60, w ∈ lw_ok := by decide +kernel
set_option maxRecDepth 100000 in
theorem inX7 : ∀ w ∈ wsX70, w ∈ lw_ok := by decide +kernel
set_option maxRecDepth 100000 in
theorem inX8 : ∀ w ∈ wsX80, w ∈ lw_ok := by decide +kernel
set_option maxRecDepth 100000 in
theorem inX9 : ∀ w ∈ wsX90, w ∈ lw_ok := by decide +kernel
set_option maxRecDepth 100000 in
theorem inX10 : ∀ w ∈ wsX100, w ∈ lw_ok := by decide +kernel
end
section
/-! ===== AM: mathematical values, cells and heaps over the machine; the judgement EX (a frame runs to an end that meets Q) and MC (a method's contract) ===== -/
abbrev aV : Type := Sum Int (Sum Int (Option Nat))
abbrev vI (x : Int) : aV := Sum.inl x
abbrev vJ (x : Int) : aV := Sum.inr (Sum.inl x)
abbrev vR (r : Option Nat) : aV := Sum.inr (Sum.inr r)
abbrev vA (a : Nat) : aV := Sum.inr (Sum.inr (some a))
abbrev vN : aV := Sum.inr (Sum.inr none)
def cv : aV → Value
  | .inl x => .int (Int32.ofInt x)
  | .inr (.inl x) => .long (Int64.ofInt x)
  | .inr (.inr r) => va_rf r
def okI (x : Int) : Prop := -2147483648 ≤ x ∧ x ≤ 2147483647
def okJ (x : Int) : Prop := -9223372036854775808 ≤ x ∧ x ≤ 9223372036854775807
def okV : aV → Prop
  | .inl x => okI x
  | .inr (.inl x) => okJ x
  | .inr (.inr _) => True
abbrev aE : Type := Sum (Nat × (Nat → Int)) (Sum (Nat × (Nat → Int)) (Sum (Nat × (Nat → Option Nat)) (Nat × List aV)))
abbrev eI (n : Nat) (g : Nat → Int) : aE := Sum.inl (n, g)
abbrev eJ (n : Nat) (g : Nat → Int) : aE := Sum.inr (Sum.inl (n, g))
abbrev eR (n : Nat) (r : Nat → Option Nat) : aE := Sum.inr (Sum.inr (Sum.inl (n, r)))
abbrev eO (ci : Nat) (fs : List aV) : aE := Sum.inr (Sum.inr (Sum.inr (ci, fs)))
abbrev aG : Type := Launch × (Nat → ClassId) × (Nat → Nat → Nat) × ClassId × ClassId × ClassId
abbrev gD (G : aG) : va_G := (G.2.1, G.2.2.1)
abbrev gT (G : aG) : List (ClassId × FieldType) := [(G.2.2.2.1, .int), (G.2.2.2.2.1, .long), (G.2.2.2.2.2, .object RX1)]
def ce (G : aG) : aE → va_E
  | .inl (n, g) => .inl (G.2.2.2.1, n, .inl (fun j => Int32.ofInt (g j)))
  | .inr (.inl (n, g)) => .inl (G.2.2.2.2.1, n, .inr (.inl (fun j => Int64.ofInt (g j))))
  | .inr (.inr (.inl (n, r))) => .inl (G.2.2.2.2.2, n, .inr (.inr (.inr (.inr r))))
  | .inr (.inr (.inr (ci, fs))) => .inr (ci, fs.map cv)
def okE : aE → Prop
  | .inl (_, g) => ∀ j, okI (g j)
  | .inr (.inl (_, g)) => ∀ j, okJ (g j)
  | .inr (.inr (.inl _)) => True
  | .inr (.inr (.inr (_, fs))) => ∀ v ∈ fs, okV v
abbrev aH : Type := Nat → Option aE
def hset (h : aH) (a : Nat) (e : aE) : aH := fun b => if b = a then some e else h b
theorem hset_eq (h : aH) (a : Nat) (e : aE) : hset h a e a = some e := if_pos rfl
theorem hset_ne (h : aH) {a b : Nat} (e : aE) (hb : b ≠ a) : hset h a e b = h b := if_neg hb
def okH (h : aH) : Prop := ∀ a e, h a = some e → okE e
theorem okH.set {h : aH} (hh : okH h) {a : Nat} {e : aE} (he : okE e) : okH (hset h a e) := by
  intro b x hx
  by_cases hb : b = a
  · subst hb; rw [hset_eq] at hx; cases hx; exact he
  · rw [hset_ne h e hb] at hx; exact hh b x hx
def ceh (G : aG) (h : aH) : Nat → va_E := fun a => ce G ((h a).getD (eI 0 (fun _ => 0)))
theorem ceh_at (G : aG) {h : aH} {a : Nat} {e : aE} (he : h a = some e) : ceh G h a = ce G e := by simp [ceh, he]
theorem ceh_set (G : aG) (h : aH) (a : Nat) (e : aE) : va_up (ceh G h) a (ce G e) = ceh G (hset h a e) := by
  funext b
  by_cases hb : b = a
  · subst hb; simp [va_up, ceh, hset]
  · simp [va_up, ceh, hset, hb]
def aWd (G : aG) (A : Nat → Prop) (h : aH) (H : Heap) : Prop := ∃ Ls : List Nat, va_P (gD G) vwCl (va_pl Ls (ceh G h)) H ∧ va_D A (va_pl Ls (ceh G h)) ∧ ∀ a, a ∈ Ls ↔ (h a).isSome = true
theorem aWd.get {G : aG} {A : Nat → Prop} {h : aH} {H : Heap} (w : aWd G A h H) {a : Nat} {e : aE} (he : h a = some e) : ∃ (Ls : List Nat) (k : Nat), va_P (gD G) vwCl (va_pl Ls (ceh G h)) H ∧ va_D A (va_pl Ls (ceh G h)) ∧ (∀ b, b ∈ Ls ↔ (h b).isSome = true) ∧ a ∈ Ls ∧ (va_pl Ls (ceh G h))[k]? = some (a, ce G e) := by
  obtain ⟨Ls, hP, hD, hL⟩ := w
  have ha : a ∈ Ls := (hL a).mpr (by rw [he]; rfl)
  obtain ⟨k, hk⟩ := va_pl_get (X := []) (f := ceh G h) ha
  refine ⟨Ls, k, hP, hD, hL, ha, ?_⟩
  rw [List.nil_append, ceh_at G he] at hk
  exact hk
theorem aWd.upd {G : aG} {A : Nat → Prop} {h : aH} {H1 : Heap} {Ls : List Nat} {a k : Nat} {e0 e : aE} (he : h a = some e0) (hD0 : va_D A (va_pl Ls (ceh G h))) (hL : ∀ b, b ∈ Ls ↔ (h b).isSome = true) (ha : a ∈ Ls) (hk : (va_pl Ls (ceh G h))[k]? = some (a, ce G e0))
    (hP : va_P (gD G) vwCl ((va_pl Ls (ceh G h)).set k (a, ce G e)) H1) (hD : va_D A ((va_pl Ls (ceh G h)).set k (a, ce G e))) : aWd G A (hset h a e) H1 := by
  have h1 := va_pl_set (X := []) (f := ceh G h) (e := ce G e) (by simpa using hD0) ha (by rw [List.nil_append, ceh_at G he]; exact hk)
  rw [List.nil_append, List.nil_append, ceh_set] at h1
  rw [h1] at hP hD
  refine ⟨Ls, hP, hD, fun b => ?_⟩
  rw [hL b]
  by_cases hb : b = a
  · subst hb; rw [hset_eq, he]; exact ⟨fun _ => rfl, fun _ => rfl⟩
  · rw [hset_ne h e hb]
theorem aWd.lt {G : aG} {A : Nat → Prop} {h : aH} {H : Heap} (w : aWd G A h H) {a : Nat} (ha : (h a).isSome = true) : a < H.size := by
  obtain ⟨e, he⟩ := Option.isSome_iff_exists.mp ha
  obtain ⟨Ls, k, hP, -, -, -, hk⟩ := w.get he
  exact (hP k _ hk).lt
theorem aWd.in {G : aG} {A : Nat → Prop} {h : aH} {H : Heap} (w : aWd G A h H) {a : Nat} (ha : (h a).isSome = true) : A a := by
  obtain ⟨e, he⟩ := Option.isSome_iff_exists.mp ha
  obtain ⟨Ls, k, -, hD, -, -, hk⟩ := w.get he
  exact hD.2 k _ hk
theorem aWd.weaken {G : aG} {A B : Nat → Prop} {h : aH} {H : Heap} (w : aWd G A h H) (hAB : ∀ a, (h a).isSome = true → A a → B a) : aWd G B h H := by
  obtain ⟨Ls, hP, hD, hL⟩ := w
  refine ⟨Ls, hP, ⟨hD.1, fun k q hk => ?_⟩, hL⟩
  have hq : q.1 ∈ Ls := by
    have := List.mem_of_getElem? hk
    simp only [va_pl, List.mem_map] at this
    obtain ⟨b, hb, rfl⟩ := this
    exact hb
  exact hAB _ ((hL _).mp hq) (hD.2 k q hk)
theorem aWd.push {G : aG} {A : Nat → Prop} {h : aH} {H1 : Heap} {Ls : List Nat} {a : Nat} {e : aE} (hL : ∀ b, b ∈ Ls ↔ (h b).isSome = true) (ha : h a = none)
    (hP : va_P (gD G) vwCl (va_pl Ls (ceh G h) ++ [(a, ce G e)]) H1) (hD : va_D A (va_pl Ls (ceh G h) ++ [(a, ce G e)])) : aWd G A (hset h a e) H1 := by
  have hn : a ∉ Ls := fun q => by have := (hL a).mp q; rw [ha] at this; cases this
  rw [va_pl_push hn, ceh_set] at hP hD
  refine ⟨Ls ++ [a], hP, hD, fun b => ?_⟩
  by_cases hb : b = a
  · subst hb; rw [hset_eq]; simp
  · rw [hset_ne h e hb, ← hL b]; simp [hb]
-- methods, rooms, contexts
def aNW : List Cond := [.castable RX0 RX1, .castable RX2 RX1, .castable RX5 RX1, .castable RX7 RX1, .methodLinkNest RX9 32 yX6_init RX9, .methodLinkNest RX9 42 yX8_init RX9, .methodLinkNest RX9 49 yX3_init RX9, .fieldLinkNest RX9 168 RX6 "steps" "I" RX9]
def aKx (G : aG) (U : State) : Prop := va_K (gD G) vwCl (gT G) U ∧ va_AO RX1 U ∧ ∀ w ∈ aNW, va_Nw w U
theorem aKx.warm {G : aG} {s U : State} (hW : s.WarmedH U.vm) (h : aKx G s) : aKx G U := by
  refine ⟨va_K.moved hW.alike h.1, va_AO.moved hW.alike h.2.1, fun w hw => ?_⟩
  have h1 := h.2.2 w hw
  simp only [aNW, List.mem_cons, List.not_mem_nil, or_false] at hw
  rcases hw with rfl | rfl | rfl | rfl | rfl | rfl | rfl | rfl
  · exact va_Nw.warmC hW h1
  · exact va_Nw.warmC hW h1
  · exact va_Nw.warmC hW h1
  · exact va_Nw.warmC hW h1
  · exact va_Nw.warmM hW h1
  · exact va_Nw.warmM hW h1
  · exact va_Nw.warmM hW h1
  · exact va_Nw.warmF hW h1
theorem aNW_tables : ∀ w ∈ aNW, w.onTables = true := by decide +kernel
theorem aKx.blind {G : aG} {a : Array Value} {U : State} {g : JFrame} {mk : MethodId} (h : aKx G U) : aKx G (U.calling g mk a) :=
  ⟨va_K.moved (u := U) (U := U.calling g mk a) (Vm.Alike.refl U.vm) h.1, va_AO.moved (u := U) (U := U.calling g mk a) (Vm.Alike.refl U.vm) h.2.1, fun w hw => va_Nw.same (aNW_tables w hw) (u := U) (U := U.calling g mk a) rfl (h.2.2 w hw)⟩
abbrev aM : Type := MethodName × ByteArray × Nat × Option FieldType
abbrev aRm (d mc ms : Nat) : Room := { frames := d, cells := mc, slots := ms, locals := 38 * d }
def aCtx (G : aG) (X : aM) (p : Program) (s : State) (m : MethodId) (args : Array Value) (meth : Method) (c : Code) : Prop :=
  p.tables.exec = Jvm.exec ∧ c.code = X.2.1 ∧ c.maxLocals = X.2.2.1 ∧ meth.sig.returnType = X.2.2.2 ∧ s.vm.findClass X.1.cls = some m.cls ∧ (∀ w ∈ lw_ok, w.before args s = true) ∧ meth.locks = false ∧ (X.1.name = "<init>" → meth.name = "<init>") ∧ aKx G s
abbrev cvq (q : Nat × aV) : Nat × Value := (q.1, cv q.2)
def aA (h : aH) (sz : Nat) : Nat → Prop := fun q => (h q).isSome = true ∨ sz ≤ q
def aQ (G : aG) (A : Nat → Prop) (Q : Option aV → aH → Prop) : Array Value → State → Outcome → State → Prop := fun _ st o t =>
  (∃ (r : Option aV) (h' : aH), Q r h' ∧ o = .returned (r.map cv) ∧ aWd G A h' t.heap ∧ okH h' ∧ ∀ v, r = some v → okV v) ∧ va_F A st t
def EX (G : aG) (X : aM) (d mc ms : Nat) (Q : Option aV → aH → Prop) (pc : Nat) (L : List (Nat × aV)) (st : List aV) (h : aH) (kc ks : Nat) : Prop :=
  ∀ (p : Program) (e : Env) (s : State) (m : MethodId) (args : Array Value) (below : List Frame) (meth : Method) (c : Code) (A : Nat → Prop) (H : Heap) (ls : Array Slot) (locs : List Loc),
    aCtx G X p s m args meth c → (∀ q : Nat, s.heap.size ≤ q → A q) → aWd G A h H → va_S A s.heap H locs → okH h → (∀ v ∈ st, okV v) → (∀ q ∈ L, okV q.2) → lv_has ls X.2.2.1 (L.map cvq) →
    W p G.1 e (aRm d mc ms) s m args below meth c H locs kc ks (MQ below (aQ G A Q) args s mc ms A) (F0 m pc ls (st.map cv))
def MC (G : aG) (X : aM) (d mc ms : Nat) (args : List aV) (h : aH) (Q : Option aV → aH → Prop) : Prop :=
  (∀ v ∈ args, okV v) → okH h → ∀ sz : Nat, Met G.1 X.1 (.code X.1 X.2.1 X.2.2.1 X.2.2.2 :: lw_ok) (aRm d mc ms) (va_Pc (args.map cv) (fun U => U.heap.size = sz ∧ aWd G (fun _ => True) h U.heap ∧ aKx G U)) (aQ G (aA h sz) Q) mc ms (aA h sz)
def aArgs : Nat → List aV → List (Nat × aV)
  | _, [] => []
  | i, .inl x :: vs => (i, .inl x) :: aArgs (i + 1) vs
  | i, .inr (.inl x) :: vs => (i, .inr (.inl x)) :: aArgs (i + 2) vs
  | i, .inr (.inr r) :: vs => (i, .inr (.inr r)) :: aArgs (i + 1) vs
theorem cv_cat_r (r : Option Nat) : (va_rf r).category = 1 := by cases r <;> rfl
theorem aArgs_cv : ∀ (vs : List aV) (i : Nat), (aArgs i vs).map cvq = lv_args i (vs.map cv)
  | [], _ => rfl
  | .inl x :: vs, i => by
    simp only [aArgs, List.map_cons, lv_args, cvq, cv, aArgs_cv vs]
    rfl
  | .inr (.inl x) :: vs, i => by
    simp only [aArgs, List.map_cons, lv_args, cvq, cv, aArgs_cv vs]
    rfl
  | .inr (.inr r) :: vs, i => by
    simp only [aArgs, List.map_cons, lv_args, cvq, cv, aArgs_cv vs, cv_cat_r]
    rfl
theorem aArgs_mem : ∀ (vs : List aV) (i : Nat), ∀ q ∈ aArgs i vs, q.2 ∈ vs
  | [], _, q, h => by cases h
  | .inl x :: vs, i, q, h => by
    rcases List.mem_cons.mp h with rfl | h
    · exact List.mem_cons_self
    · exact List.mem_cons_of_mem _ (aArgs_mem vs _ q h)
  | .inr (.inl x) :: vs, i, q, h => by
    rcases List.mem_cons.mp h with rfl | h
    · exact List.mem_cons_self
    · exact List.mem_cons_of_mem _ (aArgs_mem vs _ q h)
  | .inr (.inr r) :: vs, i, q, h => by
    rcases List.mem_cons.mp h with rfl | h
    · exact List.mem_cons_self
    · exact List.mem_cons_of_mem _ (aArgs_mem vs _ q h)
theorem MC.of {G : aG} {X : aM} {d mc ms : Nat} {args : List aV} {h : aH} {Q : Option aV → aH → Prop} (hy : plainName X.1.cls = true) (hn : (lg_sl (args.map cv)).length ≤ X.2.2.1)
    (k : (∀ v ∈ args, okV v) → okH h → EX G X d mc ms Q 0 (aArgs 0 args) [] h 0 0) : MC G X d mc ms args h Q := by
  intro hok hokh sz
  refine Met.ofW (cc := X.2.1) (maxL := X.2.2.1) (ret := X.2.2.2) hy rfl ?_
  intro p e s m av below meth c s₁ B hml hv
  obtain ⟨rfl, hsz, hw, hK⟩ := hv
  subst hsz
  have hts : ∀ w ∈ lw_ok, w.before ((args.map cv).toArray) s = true := fun w hw => atoms_spec (ws := Cond.code X.1 X.2.1 X.2.2.1 X.2.2.2 :: lw_ok) B.pre w (List.mem_cons_of_mem _ hw)
  have hown : s.vm.findClass X.1.cls = some m.cls := findClass_of_methodNamed B.named
  have hl := lv_entry (args.map cv) (n := X.2.2.1) hn
  rw [lg_entry_eq]
  generalize (lg_sl (args.map cv) ++ List.replicate (X.2.2.1 - (lg_sl (args.map cv)).length) Slot.unset).toArray = ls at hl ⊢
  have hin : X.1.name = "<init>" → meth.name = "<init>" := fun q => by
    have := (name_of_methodNamed (x := X.1) B.named B.method).1
    rw [← q]; exact this
  refine k hok hokh p e s m _ below meth c (aA h s.heap.size) s.heap ls [] ⟨B.exec, B.bytes, hml, B.returns, hown, hts, B.notSynchronized, hin, hK⟩ (fun q hq => Or.inr hq) (hw.weaken fun a ha _ => Or.inl ha) va_S.rf hokh (fun v hv => by cases hv) (fun q hq => hok _ (aArgs_mem _ _ q hq)) ?_
  rw [aArgs_cv]
  exact hl
theorem aQ.mono {G : aG} {A : Nat → Prop} {Q Q' : Option aV → aH → Prop} (hq : ∀ r h, Q r h → Q' r h) {a : Array Value} {st : State} {o : Outcome} {t : State} (h : aQ G A Q a st o t) : aQ G A Q' a st o t := by
  obtain ⟨⟨r, h', q, z⟩, f⟩ := h
  exact ⟨⟨r, h', hq _ _ q, z⟩, f⟩
theorem EX.mono {G : aG} {X : aM} {d mc ms : Nat} {Q Q' : Option aV → aH → Prop} {pc : Nat} {L : List (Nat × aV)} {st : List aV} {h : aH} {kc ks : Nat} (k : EX G X d mc ms Q pc L st h kc ks) (hq : ∀ r h, Q r h → Q' r h) : EX G X d mc ms Q' pc L st h kc ks := by
  intro p e s m args below meth c A H ls locs C hA w hS ho h1 h2 hl T hT X₀
  obtain ⟨t, a, o, b1, b2, b3, b4⟩ := k p e s m args below meth c A H ls locs C hA w hS ho h1 h2 hl T hT X₀
  exact ⟨t, a, o, b1, b2, aQ.mono hq b3, b4⟩
/-- fewer locals -/
theorem EX.drop {G : aG} {X : aM} {d mc ms : Nat} {Q : Option aV → aH → Prop} {pc : Nat} {L L' : List (Nat × aV)} {st : List aV} {h : aH} {kc ks : Nat} (k : EX G X d mc ms Q pc L' st h kc ks) (hs : ∀ q ∈ L', q ∈ L) : EX G X d mc ms Q pc L st h kc ks := by
  intro p e s m args below meth c A H ls locs C hA w hS ho h1 h2 hl
  refine k p e s m args below meth c A H ls locs C hA w hS ho h1 (fun q hq => h2 q (hs q hq)) ⟨hl.1, hl.2.1, fun q hq => ?_⟩
  obtain ⟨q0, hq0, rfl⟩ := List.mem_map.mp hq
  exact hl.2.2 _ (List.mem_map.mpr ⟨q0, hs q0 hq0, rfl⟩)
end
section
/-! ===== numbers of the machine as mathematical ones ===== -/
theorem i32_to {x : Int} (h : okI x) : (Int32.ofInt x).toInt = x := Int32.toInt_ofInt_of_le h.1 (by have := h.2; omega)
theorem i64_to {x : Int} (h : okJ x) : (Int64.ofInt x).toInt = x := Int64.toInt_ofInt_of_le h.1 (by have := h.2; omega)
theorem i32_add (x y : Int) : Int32.ofInt x + Int32.ofInt y = Int32.ofInt (x + y) := (Int32.ofInt_add x y).symm
theorem i32_sub (x y : Int) : Int32.ofInt x - Int32.ofInt y = Int32.ofInt (x - y) := (Int32.ofInt_sub x y).symm
theorem i32_mul (x y : Int) : Int32.ofInt x * Int32.ofInt y = Int32.ofInt (x * y) := (Int32.ofInt_mul x y).symm
theorem i64_add (x y : Int) : Int64.ofInt x + Int64.ofInt y = Int64.ofInt (x + y) := (Int64.ofInt_add x y).symm
theorem i64_sub (x y : Int) : Int64.ofInt x - Int64.ofInt y = Int64.ofInt (x - y) := (Int64.ofInt_sub x y).symm
theorem i64_mul (x y : Int) : Int64.ofInt x * Int64.ofInt y = Int64.ofInt (x * y) := (Int64.ofInt_mul x y).symm
theorem i32_eq {x y : Int} (hx : okI x) (hy : okI y) : Int32.ofInt x = Int32.ofInt y ↔ x = y :=
  ⟨fun h => by rw [← i32_to hx, ← i32_to hy, h], fun h => by rw [h]⟩
theorem i32_lt {x y : Int} (hx : okI x) (hy : okI y) : Int32.ofInt x < Int32.ofInt y ↔ x < y := by
  rw [Int32.lt_iff_toInt_lt, i32_to hx, i32_to hy]
theorem i32_le {x y : Int} (hx : okI x) (hy : okI y) : Int32.ofInt x ≤ Int32.ofInt y ↔ x ≤ y := by
  rw [Int32.le_iff_toInt_le, i32_to hx, i32_to hy]
theorem i64_eq {x y : Int} (hx : okJ x) (hy : okJ y) : Int64.ofInt x = Int64.ofInt y ↔ x = y :=
  ⟨fun h => by rw [← i64_to hx, ← i64_to hy, h], fun h => by rw [h]⟩
theorem i64_lt {x y : Int} (hx : okJ x) (hy : okJ y) : Int64.ofInt x < Int64.ofInt y ↔ x < y := by
  rw [Int64.lt_iff_toInt_lt, i64_to hx, i64_to hy]
theorem i64_le {x y : Int} (hx : okJ x) (hy : okJ y) : Int64.ofInt x ≤ Int64.ofInt y ↔ x ≤ y := by
  rw [Int64.le_iff_toInt_le, i64_to hx, i64_to hy]
theorem okI_0 : okI 0 := by unfold okI; omega
theorem okJ_0 : okJ 0 := by unfold okJ; omega
theorem i32_0 : (0 : Int32) = Int32.ofInt 0 := rfl
theorem i64_0 : (0 : Int64) = Int64.ofInt 0 := rfl
theorem okJ_I {x : Int} (h : okI x) : okJ x := by unfold okI at h; unfold okJ; omega
theorem i32_i2l {x : Int} (h : okI x) : (Int32.ofInt x).toInt64 = Int64.ofInt x := by
  apply Int64.toInt_inj.mp
  rw [Int32.toInt_toInt64, i32_to h, i64_to (okJ_I h)]
theorem i64_l2i {x : Int} (h : okI x) : (Int64.ofInt x).toInt32 = Int32.ofInt x := by
  apply Int32.toInt_inj.mp
  rw [Int64.toInt_toInt32, i64_to (okJ_I h), i32_to h]
  unfold okI at h
  apply Int.bmod_eq_of_le <;> omega
theorem i32_nat {x : Int} (h : okI x) (h0 : 0 ≤ x) : (Int32.ofInt x).toNatClampNeg = x.toNat := by
  rw [Int32.toNatClampNeg, i32_to h]
theorem i32_in {x : Int} {n : Nat} (h : okI x) (h0 : 0 ≤ x) (hn : x < n) : vp_in (Int32.ofInt x) n := by
  rw [vp_in_iff, i32_to h]; exact ⟨h0, hn⟩
theorem i32_div {x y : Int} (hx : okI x) (hy : okI y) (h0 : 0 ≤ x) (hy0 : 0 < y) : Int32.ofInt x / Int32.ofInt y = Int32.ofInt (x / y) := by
  apply Int32.toInt_inj.mp
  have h1 : x / y ≤ x := Int.ediv_le_self _ h0
  have h2 : 0 ≤ x / y := Int.ediv_nonneg h0 (by omega)
  have h3 : okI (x / y) := by unfold okI at *; omega
  rw [Int32.toInt_div, i32_to hx, i32_to hy, i32_to h3, Int.tdiv_eq_ediv_of_nonneg h0]
  unfold okI at h3
  apply Int.bmod_eq_of_le <;> omega
theorem i64_div {x y : Int} (hx : okJ x) (hy : okJ y) (h0 : 0 ≤ x) (hy0 : 0 < y) : Int64.ofInt x / Int64.ofInt y = Int64.ofInt (x / y) := by
  apply Int64.toInt_inj.mp
  have h1 : x / y ≤ x := Int.ediv_le_self _ h0
  have h2 : 0 ≤ x / y := Int.ediv_nonneg h0 (by omega)
  have h3 : okJ (x / y) := by unfold okJ at *; omega
  rw [Int64.toInt_div, i64_to hx, i64_to hy, i64_to h3, Int.tdiv_eq_ediv_of_nonneg h0]
  unfold okJ at h3
  apply Int.bmod_eq_of_le <;> omega
theorem i32_rem {x y : Int} (hx : okI x) (hy : okI y) (h0 : 0 ≤ x) (hy0 : 0 < y) : Int32.ofInt x - Int32.ofInt x / Int32.ofInt y * Int32.ofInt y = Int32.ofInt (x % y) := by
  rw [i32_div hx hy h0 hy0, i32_mul, i32_sub]
  congr 1
  rw [Int.emod_def, Int.mul_comm]
theorem i64_rem {x y : Int} (hx : okJ x) (hy : okJ y) (h0 : 0 ≤ x) (hy0 : 0 < y) : Int64.ofInt x - Int64.ofInt x / Int64.ofInt y * Int64.ofInt y = Int64.ofInt (x % y) := by
  rw [i64_div hx hy h0 hy0, i64_mul, i64_sub]
  congr 1
  rw [Int.emod_def, Int.mul_comm]
end
section
/-! ===== the rows of EX, an instruction each ===== -/
section XR
variable {G : aG} {X : aM} {d mc ms : Nat} {Q : Option aV → aH → Prop} {pc : Nat} {L L' : List (Nat × aV)} {st : List aV} {h : aH} {kc ks : Nat}
theorem ok_c {v : aV} {st : List aV} (hv : okV v) (h : ∀ u ∈ st, okV u) : ∀ u ∈ v :: st, okV u := List.forall_mem_cons.mpr ⟨hv, h⟩
theorem ok_h {v : aV} {st : List aV} (h : ∀ u ∈ v :: st, okV u) : okV v := h v List.mem_cons_self
theorem ok_t {v : aV} {st : List aV} (h : ∀ u ∈ v :: st, okV u) : ∀ u ∈ st, okV u := fun u hu => h u (List.mem_cons_of_mem _ hu)
theorem ok_I {x : Int} {st : List aV} (h : ∀ u ∈ vI x :: st, okV u) : okI x := h (vI x) List.mem_cons_self
theorem ok_J {x : Int} {st : List aV} (h : ∀ u ∈ vJ x :: st, okV u) : okJ x := h (vJ x) List.mem_cons_self
def aDel1 (i : Nat) (L : List (Nat × aV)) : List (Nat × aV) := L.filter (fun q => !(q.1 == i) && !(q.1 + 1 == i && (match q.2 with | .inr (.inl _) => true | _ => false)))
def aDel2 (i : Nat) (L : List (Nat × aV)) : List (Nat × aV) := L.filter (fun q => !(q.1 == i) && (!(q.1 == i + 1) && !(q.1 + 1 == i && (match q.2 with | .inr (.inl _) => true | _ => false))))
theorem cv_cat (v : aV) : ((cv v).category == 2) = (match v with | .inr (.inl _) => true | _ => false) := by
  rcases v with x | x | r
  · rfl
  · rfl
  · show ((va_rf r).category == 2) = false
    rw [cv_cat_r]; rfl
theorem aDel1_cv (i : Nat) (L : List (Nat × aV)) : (L.map cvq).filter (fun q => !(q.1 == i) && !(q.1 + 1 == i && q.2.category == 2)) = (aDel1 i L).map cvq := by
  rw [aDel1, List.filter_map]
  congr 1
  apply List.filter_congr
  intro q _
  simp only [Function.comp, cvq, cv_cat]
theorem aDel2_cv (i : Nat) (L : List (Nat × aV)) : (L.map cvq).filter (fun q => !(q.1 == i) && (!(q.1 == i + 1) && !(q.1 + 1 == i && q.2.category == 2))) = (aDel2 i L).map cvq := by
  rw [aDel2, List.filter_map]
  congr 1
  apply List.filter_congr
  intro q _
  simp only [Function.comp, cvq, cv_cat]
theorem aDel1_ok {i : Nat} {L : List (Nat × aV)} {v : aV} (hv : okV v) (h : ∀ q ∈ L, okV q.2) : ∀ q ∈ (i, v) :: aDel1 i L, okV q.2 := by
  intro q hq
  rcases List.mem_cons.mp hq with rfl | hq
  · exact hv
  · exact h q (List.mem_filter.mp hq).1
theorem aDel2_ok {i : Nat} {L : List (Nat × aV)} {v : aV} (hv : okV v) (h : ∀ q ∈ L, okV q.2) : ∀ q ∈ (i, v) :: aDel2 i L, okV q.2 := by
  intro q hq
  rcases List.mem_cons.mp hq with rfl | hq
  · exact hv
  · exact h q (List.mem_filter.mp hq).1
theorem EX.pick (ks' : List Nat) (hL : ks'.filterMap (fun k => L[k]?) = L') (k : EX G X d mc ms Q pc L' st h kc ks) : EX G X d mc ms Q pc L st h kc ks := by
  refine k.drop fun q hq => ?_
  rw [← hL] at hq
  obtain ⟨i, -, hi⟩ := List.mem_filterMap.mp hq
  exact List.mem_of_getElem? hi

theorem x_iconst {n : Int} (hd : decode X.2.1 pc = .ok (.iconst n, 1)) (hn : okI n) (k : EX G X d mc ms Q (pc + 1) L (vI n :: st) h kc ks) : EX G X d mc ms Q pc L st h kc ks := by
  intro p e s m args below meth c A H ls locs C hA w hS ho h1 h2 hl
  exact lv_iconst C.1 C.2.1 hd rfl (k p e s m args below meth c A H ls locs C hA w hS ho (ok_c hn h1) h2 hl)
theorem x_bipush {n : Int} (hd : decode X.2.1 pc = .ok (.bipush n, 2)) (hn : okI n) (hv : (Int8.ofInt n).toInt32 = Int32.ofInt n) (k : EX G X d mc ms Q (pc + 2) L (vI n :: st) h kc ks) : EX G X d mc ms Q pc L st h kc ks := by
  intro p e s m args below meth c A H ls locs C hA w hS ho h1 h2 hl
  exact lv_bipush C.1 C.2.1 hd hv (k p e s m args below meth c A H ls locs C hA w hS ho (ok_c hn h1) h2 hl)
theorem x_sipush {n : Int} (hd : decode X.2.1 pc = .ok (.sipush n, 3)) (hn : okI n) (hv : (Int16.ofInt n).toInt32 = Int32.ofInt n) (k : EX G X d mc ms Q (pc + 3) L (vI n :: st) h kc ks) : EX G X d mc ms Q pc L st h kc ks := by
  intro p e s m args below meth c A H ls locs C hA w hS ho h1 h2 hl
  exact lv_sipush C.1 C.2.1 hd hv (k p e s m args below meth c A H ls locs C hA w hS ho (ok_c hn h1) h2 hl)
theorem x_lconst {n : Fin 2} {x : Int} (hd : decode X.2.1 pc = .ok (.lconst n, 1)) (hn : okJ x) (hv : Int64.ofNat (n : Nat) = Int64.ofInt x) (k : EX G X d mc ms Q (pc + 1) L (vJ x :: st) h kc ks) : EX G X d mc ms Q pc L st h kc ks := by
  intro p e s m args below meth c A H ls locs C hA w hS ho h1 h2 hl
  exact lv_lconst C.1 C.2.1 hd hv (k p e s m args below meth c A H ls locs C hA w hS ho (ok_c hn h1) h2 hl)
theorem x_ldc {n : Int} {idx : Nat} (hd : decode X.2.1 pc = .ok (.ldc idx, 2)) (hn : okI n) (hc : Cond.constant X.1.cls idx (Int32.ofInt n) ∈ lw_ok) (k : EX G X d mc ms Q (pc + 2) L (vI n :: st) h kc ks) : EX G X d mc ms Q pc L st h kc ks := by
  intro p e s m args below meth c A H ls locs C hA w hS ho h1 h2 hl
  exact lv_ldc C.1 C.2.1 C.2.2.2.2.1 (C.2.2.2.2.2.1 _ hc) hd (k p e s m args below meth c A H ls locs C hA w hS ho (ok_c hn h1) h2 hl)
theorem x_ldc2 {n : Int} {idx : Nat} (hd : decode X.2.1 pc = .ok (.ldc2_w idx, 3)) (hn : okJ n) (hc : Cond.constantLong X.1.cls idx (Int64.ofInt n) ∈ lw_ok) (k : EX G X d mc ms Q (pc + 3) L (vJ n :: st) h kc ks) : EX G X d mc ms Q pc L st h kc ks := by
  intro p e s m args below meth c A H ls locs C hA w hS ho h1 h2 hl
  exact lv_ldc2 C.1 C.2.1 C.2.2.2.2.1 (C.2.2.2.2.2.1 _ hc) hd (k p e s m args below meth c A H ls locs C hA w hS ho (ok_c hn h1) h2 hl)
theorem x_null  (hd : decode X.2.1 pc = .ok (.aconst_null, 1)) (k : EX G X d mc ms Q (pc + 1) L (vN :: st) h kc ks) : EX G X d mc ms Q pc L st h kc ks := by
  intro p e s m args below meth c A H ls locs C hA w hS ho h1 h2 hl
  exact lv_null C.1 C.2.1 hd (k p e s m args below meth c A H ls locs C hA w hS ho (ok_c trivial h1) h2 hl)
theorem x_iload {x : Int} {i : Nat} (j : Nat) (hd : decode X.2.1 pc = .ok (.iload i, 2)) (hq : L[j]? = some (i, vI x)) (k : EX G X d mc ms Q (pc + 2) L (vI x :: st) h kc ks) : EX G X d mc ms Q pc L st h kc ks := by
  intro p e s m args below meth c A H ls locs C hA w hS ho h1 h2 hl
  exact lv_iload C.1 C.2.1 hd (hl.2.2 _ (List.mem_map.mpr ⟨_, List.mem_of_getElem? hq, rfl⟩)) (k p e s m args below meth c A H ls locs C hA w hS ho (ok_c (h2 _ (List.mem_of_getElem? hq)) h1) h2 hl)
theorem x_iload_n {x : Int} {i : Nat} {f : Fin 4} (j : Nat) (hd : decode X.2.1 pc = .ok (.iload_n f, 1)) (hi : (f : Nat) = i) (hq : L[j]? = some (i, vI x)) (k : EX G X d mc ms Q (pc + 1) L (vI x :: st) h kc ks) : EX G X d mc ms Q pc L st h kc ks := by
  intro p e s m args below meth c A H ls locs C hA w hS ho h1 h2 hl
  exact lv_iload_n C.1 C.2.1 hd hi (hl.2.2 _ (List.mem_map.mpr ⟨_, List.mem_of_getElem? hq, rfl⟩)) (k p e s m args below meth c A H ls locs C hA w hS ho (ok_c (h2 _ (List.mem_of_getElem? hq)) h1) h2 hl)
theorem x_lload {x : Int} {i : Nat} (j : Nat) (hd : decode X.2.1 pc = .ok (.lload i, 2)) (hq : L[j]? = some (i, vJ x)) (k : EX G X d mc ms Q (pc + 2) L (vJ x :: st) h kc ks) : EX G X d mc ms Q pc L st h kc ks := by
  intro p e s m args below meth c A H ls locs C hA w hS ho h1 h2 hl
  exact lv_lload C.1 C.2.1 hd (hl.2.2 _ (List.mem_map.mpr ⟨_, List.mem_of_getElem? hq, rfl⟩)) (k p e s m args below meth c A H ls locs C hA w hS ho (ok_c (h2 _ (List.mem_of_getElem? hq)) h1) h2 hl)
theorem x_lload_n {x : Int} {i : Nat} {f : Fin 4} (j : Nat) (hd : decode X.2.1 pc = .ok (.lload_n f, 1)) (hi : (f : Nat) = i) (hq : L[j]? = some (i, vJ x)) (k : EX G X d mc ms Q (pc + 1) L (vJ x :: st) h kc ks) : EX G X d mc ms Q pc L st h kc ks := by
  intro p e s m args below meth c A H ls locs C hA w hS ho h1 h2 hl
  exact lv_lload_n C.1 C.2.1 hd hi (hl.2.2 _ (List.mem_map.mpr ⟨_, List.mem_of_getElem? hq, rfl⟩)) (k p e s m args below meth c A H ls locs C hA w hS ho (ok_c (h2 _ (List.mem_of_getElem? hq)) h1) h2 hl)
theorem x_aload {x : Nat} {i : Nat} (j : Nat) (hd : decode X.2.1 pc = .ok (.aload i, 2)) (hq : L[j]? = some (i, vA x)) (k : EX G X d mc ms Q (pc + 2) L (vA x :: st) h kc ks) : EX G X d mc ms Q pc L st h kc ks := by
  intro p e s m args below meth c A H ls locs C hA w hS ho h1 h2 hl
  exact lv_aload C.1 C.2.1 hd (hl.2.2 _ (List.mem_map.mpr ⟨_, List.mem_of_getElem? hq, rfl⟩)) (k p e s m args below meth c A H ls locs C hA w hS ho (ok_c (h2 _ (List.mem_of_getElem? hq)) h1) h2 hl)
theorem x_aload_n {x : Nat} {i : Nat} {f : Fin 4} (j : Nat) (hd : decode X.2.1 pc = .ok (.aload_n f, 1)) (hi : (f : Nat) = i) (hq : L[j]? = some (i, vA x)) (k : EX G X d mc ms Q (pc + 1) L (vA x :: st) h kc ks) : EX G X d mc ms Q pc L st h kc ks := by
  intro p e s m args below meth c A H ls locs C hA w hS ho h1 h2 hl
  exact lv_aload_n C.1 C.2.1 hd hi (hl.2.2 _ (List.mem_map.mpr ⟨_, List.mem_of_getElem? hq, rfl⟩)) (k p e s m args below meth c A H ls locs C hA w hS ho (ok_c (h2 _ (List.mem_of_getElem? hq)) h1) h2 hl)
theorem x_aloadr {r : Option Nat} {i : Nat} (j : Nat) (hd : decode X.2.1 pc = .ok (.aload i, 2)) (hq : L[j]? = some (i, vR r)) (k : EX G X d mc ms Q (pc + 2) L (vR r :: st) h kc ks) : EX G X d mc ms Q pc L st h kc ks := by
  intro p e s m args below meth c A H ls locs C hA w hS ho h1 h2 hl
  cases r with
  | none => exact lv_aloadN C.1 C.2.1 hd (hl.2.2 _ (List.mem_map.mpr ⟨_, List.mem_of_getElem? hq, rfl⟩)) (k p e s m args below meth c A H ls locs C hA w hS ho (ok_c (h2 _ (List.mem_of_getElem? hq)) h1) h2 hl)
  | some a => exact lv_aload C.1 C.2.1 hd (hl.2.2 _ (List.mem_map.mpr ⟨_, List.mem_of_getElem? hq, rfl⟩)) (k p e s m args below meth c A H ls locs C hA w hS ho (ok_c (h2 _ (List.mem_of_getElem? hq)) h1) h2 hl)
theorem x_aloadr_n {r : Option Nat} {i : Nat} {f : Fin 4} (j : Nat) (hd : decode X.2.1 pc = .ok (.aload_n f, 1)) (hi : (f : Nat) = i) (hq : L[j]? = some (i, vR r)) (k : EX G X d mc ms Q (pc + 1) L (vR r :: st) h kc ks) : EX G X d mc ms Q pc L st h kc ks := by
  intro p e s m args below meth c A H ls locs C hA w hS ho h1 h2 hl
  cases r with
  | none => exact lv_aload_nN C.1 C.2.1 hd hi (hl.2.2 _ (List.mem_map.mpr ⟨_, List.mem_of_getElem? hq, rfl⟩)) (k p e s m args below meth c A H ls locs C hA w hS ho (ok_c (h2 _ (List.mem_of_getElem? hq)) h1) h2 hl)
  | some a => exact lv_aload_n C.1 C.2.1 hd hi (hl.2.2 _ (List.mem_map.mpr ⟨_, List.mem_of_getElem? hq, rfl⟩)) (k p e s m args below meth c A H ls locs C hA w hS ho (ok_c (h2 _ (List.mem_of_getElem? hq)) h1) h2 hl)
theorem x_istore {x : Int} {i : Nat} (hd : decode X.2.1 pc = .ok (.istore i, 2)) (hn : i < X.2.2.1) (hL : (i, vI x) :: aDel1 i L = L') (k : EX G X d mc ms Q (pc + 2) L' st h kc ks) : EX G X d mc ms Q pc L (vI x :: st) h kc ks := by
  intro p e s m args below meth c A H ls locs C hA w hS ho h1 h2 hl
  refine lv_istore C.1 C.2.1 hd hl hn (lv' := (L').map cvq) ?_ fun ls' hl' => ?_
  · rw [aDel1_cv, ← hL]; rfl
  · subst hL
    exact k p e s m args below meth c A H ls' locs C hA w hS ho (ok_t h1) (aDel1_ok (ok_h h1) h2) hl'
theorem x_istore_n {x : Int} {i : Nat} {f : Fin 4} (hd : decode X.2.1 pc = .ok (.istore_n f, 1)) (hi : (f : Nat) = i) (hn : i < X.2.2.1) (hL : (i, vI x) :: aDel1 i L = L') (k : EX G X d mc ms Q (pc + 1) L' st h kc ks) : EX G X d mc ms Q pc L (vI x :: st) h kc ks := by
  intro p e s m args below meth c A H ls locs C hA w hS ho h1 h2 hl
  refine lv_istore_n C.1 C.2.1 hd hi hl hn (lv' := (L').map cvq) ?_ fun ls' hl' => ?_
  · rw [aDel1_cv, ← hL]; rfl
  · subst hL
    exact k p e s m args below meth c A H ls' locs C hA w hS ho (ok_t h1) (aDel1_ok (ok_h h1) h2) hl'
theorem x_lstore {x : Int} {i : Nat} (hd : decode X.2.1 pc = .ok (.lstore i, 2)) (hn : i + 1 < X.2.2.1) (hL : (i, vJ x) :: aDel2 i L = L') (k : EX G X d mc ms Q (pc + 2) L' st h kc ks) : EX G X d mc ms Q pc L (vJ x :: st) h kc ks := by
  intro p e s m args below meth c A H ls locs C hA w hS ho h1 h2 hl
  refine lv_lstore C.1 C.2.1 hd hl hn (lv' := (L').map cvq) ?_ fun ls' hl' => ?_
  · rw [aDel2_cv, ← hL]; rfl
  · subst hL
    exact k p e s m args below meth c A H ls' locs C hA w hS ho (ok_t h1) (aDel2_ok (ok_h h1) h2) hl'
theorem x_lstore_n {x : Int} {i : Nat} {f : Fin 4} (hd : decode X.2.1 pc = .ok (.lstore_n f, 1)) (hi : (f : Nat) = i) (hn : i + 1 < X.2.2.1) (hL : (i, vJ x) :: aDel2 i L = L') (k : EX G X d mc ms Q (pc + 1) L' st h kc ks) : EX G X d mc ms Q pc L (vJ x :: st) h kc ks := by
  intro p e s m args below meth c A H ls locs C hA w hS ho h1 h2 hl
  refine lv_lstore_n C.1 C.2.1 hd hi hl hn (lv' := (L').map cvq) ?_ fun ls' hl' => ?_
  · rw [aDel2_cv, ← hL]; rfl
  · subst hL
    exact k p e s m args below meth c A H ls' locs C hA w hS ho (ok_t h1) (aDel2_ok (ok_h h1) h2) hl'
theorem x_astore {x : Nat} {i : Nat} (hd : decode X.2.1 pc = .ok (.astore i, 2)) (hn : i < X.2.2.1) (hL : (i, vA x) :: aDel1 i L = L') (k : EX G X d mc ms Q (pc + 2) L' st h kc ks) : EX G X d mc ms Q pc L (vA x :: st) h kc ks := by
  intro p e s m args below meth c A H ls locs C hA w hS ho h1 h2 hl
  refine lv_astore C.1 C.2.1 hd hl hn (lv' := (L').map cvq) ?_ fun ls' hl' => ?_
  · rw [aDel1_cv, ← hL]; rfl
  · subst hL
    exact k p e s m args below meth c A H ls' locs C hA w hS ho (ok_t h1) (aDel1_ok (ok_h h1) h2) hl'
theorem x_astore_n {x : Nat} {i : Nat} {f : Fin 4} (hd : decode X.2.1 pc = .ok (.astore_n f, 1)) (hi : (f : Nat) = i) (hn : i < X.2.2.1) (hL : (i, vA x) :: aDel1 i L = L') (k : EX G X d mc ms Q (pc + 1) L' st h kc ks) : EX G X d mc ms Q pc L (vA x :: st) h kc ks := by
  intro p e s m args below meth c A H ls locs C hA w hS ho h1 h2 hl
  refine lv_astore_n C.1 C.2.1 hd hi hl hn (lv' := (L').map cvq) ?_ fun ls' hl' => ?_
  · rw [aDel1_cv, ← hL]; rfl
  · subst hL
    exact k p e s m args below meth c A H ls' locs C hA w hS ho (ok_t h1) (aDel1_ok (ok_h h1) h2) hl'
theorem x_astorer {r : Option Nat} {i : Nat} (hd : decode X.2.1 pc = .ok (.astore i, 2)) (hn : i < X.2.2.1) (hL : (i, vR r) :: aDel1 i L = L') (k : EX G X d mc ms Q (pc + 2) L' st h kc ks) : EX G X d mc ms Q pc L (vR r :: st) h kc ks := by
  intro p e s m args below meth c A H ls locs C hA w hS ho h1 h2 hl
  cases r with
  | none =>
    refine lv_astoreN C.1 C.2.1 hd hl hn (lv' := (L').map cvq) ?_ fun ls' hl' => ?_
    · rw [aDel1_cv, ← hL]; rfl
    · subst hL
      exact k p e s m args below meth c A H ls' locs C hA w hS ho (ok_t h1) (aDel1_ok (ok_h h1) h2) hl'
  | some a =>
    refine lv_astore C.1 C.2.1 hd hl hn (lv' := (L').map cvq) ?_ fun ls' hl' => ?_
    · rw [aDel1_cv, ← hL]; rfl
    · subst hL
      exact k p e s m args below meth c A H ls' locs C hA w hS ho (ok_t h1) (aDel1_ok (ok_h h1) h2) hl' 
theorem x_astorer_n {r : Option Nat} {i : Nat} {f : Fin 4} (hd : decode X.2.1 pc = .ok (.astore_n f, 1)) (hi : (f : Nat) = i) (hn : i < X.2.2.1) (hL : (i, vR r) :: aDel1 i L = L') (k : EX G X d mc ms Q (pc + 1) L' st h kc ks) : EX G X d mc ms Q pc L (vR r :: st) h kc ks := by
  intro p e s m args below meth c A H ls locs C hA w hS ho h1 h2 hl
  cases r with
  | none =>
    refine lv_astore_nN C.1 C.2.1 hd hi hl hn (lv' := (L').map cvq) ?_ fun ls' hl' => ?_
    · rw [aDel1_cv, ← hL]; rfl
    · subst hL
      exact k p e s m args below meth c A H ls' locs C hA w hS ho (ok_t h1) (aDel1_ok (ok_h h1) h2) hl'
  | some a =>
    refine lv_astore_n C.1 C.2.1 hd hi hl hn (lv' := (L').map cvq) ?_ fun ls' hl' => ?_
    · rw [aDel1_cv, ← hL]; rfl
    · subst hL
      exact k p e s m args below meth c A H ls' locs C hA w hS ho (ok_t h1) (aDel1_ok (ok_h h1) h2) hl' 
theorem x_iinc {x n : Int} {i : Nat} (j : Nat) (hd : decode X.2.1 pc = .ok (.iinc i n, 3)) (hq : L[j]? = some (i, vI x)) (hx : okI (x + n)) (hn : i < X.2.2.1) (hL : (i, vI (x + n)) :: aDel1 i L = L') (k : EX G X d mc ms Q (pc + 3) L' st h kc ks) : EX G X d mc ms Q pc L st h kc ks := by
  intro p e s m args below meth c A H ls locs C hA w hS ho h1 h2 hl
  refine lv_iinc (k := j) (x := Int32.ofInt x) (v := Int32.ofInt (x + n)) C.1 C.2.1 hd hl ?_ (i32_add x n) hn (lv' := (L').map cvq) ?_ fun ls' hl' => ?_
  · rw [List.getElem?_map, hq]; rfl
  · rw [aDel1_cv, ← hL]; rfl
  · subst hL
    exact k p e s m args below meth c A H ls' locs C hA w hS ho h1 (aDel1_ok hx h2) hl' 
theorem x_iadd {x y : Int} (hd : decode X.2.1 pc = .ok (.iadd, 1)) (hv : okI (x + y)) (k : EX G X d mc ms Q (pc + 1) L (vI (x + y) :: st) h kc ks) : EX G X d mc ms Q pc L (vI y :: vI x :: st) h kc ks := by
  intro p e s m args below meth c A H ls locs C hA w hS ho h1 h2 hl
  refine lv_iadd C.1 C.2.1 hd ?_
  rw [i32_add]
  exact k p e s m args below meth c A H ls locs C hA w hS ho (ok_c hv (ok_t (ok_t h1))) h2 hl
theorem x_iaddW {x y v : Int} (hd : decode X.2.1 pc = .ok (.iadd, 1)) (hv : okI v) (he : Int32.ofInt (x + y) = Int32.ofInt v) (k : EX G X d mc ms Q (pc + 1) L (vI v :: st) h kc ks) : EX G X d mc ms Q pc L (vI y :: vI x :: st) h kc ks := by
  intro p e s m args below meth c A H ls locs C hA w hS ho h1 h2 hl
  refine lv_iadd C.1 C.2.1 hd ?_
  rw [i32_add, he]
  exact k p e s m args below meth c A H ls locs C hA w hS ho (ok_c hv (ok_t (ok_t h1))) h2 hl
theorem x_isub {x y : Int} (hd : decode X.2.1 pc = .ok (.isub, 1)) (hv : okI (x - y)) (k : EX G X d mc ms Q (pc + 1) L (vI (x - y) :: st) h kc ks) : EX G X d mc ms Q pc L (vI y :: vI x :: st) h kc ks := by
  intro p e s m args below meth c A H ls locs C hA w hS ho h1 h2 hl
  refine lv_isub C.1 C.2.1 hd ?_
  rw [i32_sub]
  exact k p e s m args below meth c A H ls locs C hA w hS ho (ok_c hv (ok_t (ok_t h1))) h2 hl
theorem x_isubW {x y v : Int} (hd : decode X.2.1 pc = .ok (.isub, 1)) (hv : okI v) (he : Int32.ofInt (x - y) = Int32.ofInt v) (k : EX G X d mc ms Q (pc + 1) L (vI v :: st) h kc ks) : EX G X d mc ms Q pc L (vI y :: vI x :: st) h kc ks := by
  intro p e s m args below meth c A H ls locs C hA w hS ho h1 h2 hl
  refine lv_isub C.1 C.2.1 hd ?_
  rw [i32_sub, he]
  exact k p e s m args below meth c A H ls locs C hA w hS ho (ok_c hv (ok_t (ok_t h1))) h2 hl
theorem x_imul {x y : Int} (hd : decode X.2.1 pc = .ok (.imul, 1)) (hv : okI (x * y)) (k : EX G X d mc ms Q (pc + 1) L (vI (x * y) :: st) h kc ks) : EX G X d mc ms Q pc L (vI y :: vI x :: st) h kc ks := by
  intro p e s m args below meth c A H ls locs C hA w hS ho h1 h2 hl
  refine lv_imul C.1 C.2.1 hd ?_
  rw [i32_mul]
  exact k p e s m args below meth c A H ls locs C hA w hS ho (ok_c hv (ok_t (ok_t h1))) h2 hl
theorem x_imulW {x y v : Int} (hd : decode X.2.1 pc = .ok (.imul, 1)) (hv : okI v) (he : Int32.ofInt (x * y) = Int32.ofInt v) (k : EX G X d mc ms Q (pc + 1) L (vI v :: st) h kc ks) : EX G X d mc ms Q pc L (vI y :: vI x :: st) h kc ks := by
  intro p e s m args below meth c A H ls locs C hA w hS ho h1 h2 hl
  refine lv_imul C.1 C.2.1 hd ?_
  rw [i32_mul, he]
  exact k p e s m args below meth c A H ls locs C hA w hS ho (ok_c hv (ok_t (ok_t h1))) h2 hl
theorem x_ladd {x y : Int} (hd : decode X.2.1 pc = .ok (.ladd, 1)) (hv : okJ (x + y)) (k : EX G X d mc ms Q (pc + 1) L (vJ (x + y) :: st) h kc ks) : EX G X d mc ms Q pc L (vJ y :: vJ x :: st) h kc ks := by
  intro p e s m args below meth c A H ls locs C hA w hS ho h1 h2 hl
  refine lv_ladd C.1 C.2.1 hd ?_
  rw [i64_add]
  exact k p e s m args below meth c A H ls locs C hA w hS ho (ok_c hv (ok_t (ok_t h1))) h2 hl
theorem x_laddW {x y v : Int} (hd : decode X.2.1 pc = .ok (.ladd, 1)) (hv : okJ v) (he : Int64.ofInt (x + y) = Int64.ofInt v) (k : EX G X d mc ms Q (pc + 1) L (vJ v :: st) h kc ks) : EX G X d mc ms Q pc L (vJ y :: vJ x :: st) h kc ks := by
  intro p e s m args below meth c A H ls locs C hA w hS ho h1 h2 hl
  refine lv_ladd C.1 C.2.1 hd ?_
  rw [i64_add, he]
  exact k p e s m args below meth c A H ls locs C hA w hS ho (ok_c hv (ok_t (ok_t h1))) h2 hl
theorem x_lsub {x y : Int} (hd : decode X.2.1 pc = .ok (.lsub, 1)) (hv : okJ (x - y)) (k : EX G X d mc ms Q (pc + 1) L (vJ (x - y) :: st) h kc ks) : EX G X d mc ms Q pc L (vJ y :: vJ x :: st) h kc ks := by
  intro p e s m args below meth c A H ls locs C hA w hS ho h1 h2 hl
  refine lv_lsub C.1 C.2.1 hd ?_
  rw [i64_sub]
  exact k p e s m args below meth c A H ls locs C hA w hS ho (ok_c hv (ok_t (ok_t h1))) h2 hl
theorem x_lsubW {x y v : Int} (hd : decode X.2.1 pc = .ok (.lsub, 1)) (hv : okJ v) (he : Int64.ofInt (x - y) = Int64.ofInt v) (k : EX G X d mc ms Q (pc + 1) L (vJ v :: st) h kc ks) : EX G X d mc ms Q pc L (vJ y :: vJ x :: st) h kc ks := by
  intro p e s m args below meth c A H ls locs C hA w hS ho h1 h2 hl
  refine lv_lsub C.1 C.2.1 hd ?_
  rw [i64_sub, he]
  exact k p e s m args below meth c A H ls locs C hA w hS ho (ok_c hv (ok_t (ok_t h1))) h2 hl
theorem x_lmul {x y : Int} (hd : decode X.2.1 pc = .ok (.lmul, 1)) (hv : okJ (x * y)) (k : EX G X d mc ms Q (pc + 1) L (vJ (x * y) :: st) h kc ks) : EX G X d mc ms Q pc L (vJ y :: vJ x :: st) h kc ks := by
  intro p e s m args below meth c A H ls locs C hA w hS ho h1 h2 hl
  refine lv_lmul C.1 C.2.1 hd ?_
  rw [i64_mul]
  exact k p e s m args below meth c A H ls locs C hA w hS ho (ok_c hv (ok_t (ok_t h1))) h2 hl
theorem x_lmulW {x y v : Int} (hd : decode X.2.1 pc = .ok (.lmul, 1)) (hv : okJ v) (he : Int64.ofInt (x * y) = Int64.ofInt v) (k : EX G X d mc ms Q (pc + 1) L (vJ v :: st) h kc ks) : EX G X d mc ms Q pc L (vJ y :: vJ x :: st) h kc ks := by
  intro p e s m args below meth c A H ls locs C hA w hS ho h1 h2 hl
  refine lv_lmul C.1 C.2.1 hd ?_
  rw [i64_mul, he]
  exact k p e s m args below meth c A H ls locs C hA w hS ho (ok_c hv (ok_t (ok_t h1))) h2 hl
theorem x_idiv {x y : Int} (hd : decode X.2.1 pc = .ok (.idiv, 1)) (hx : 0 ≤ x) (hy : 0 < y) (k : EX G X d mc ms Q (pc + 1) L (vI (x / y) :: st) h kc ks) : EX G X d mc ms Q pc L (vI y :: vI x :: st) h kc ks := by
  intro p e s m args below meth c A H ls locs C hA w hS ho h1 h2 hl
  have oy := ok_I h1
  have ox := ok_I (ok_t h1)
  refine lv_idiv C.1 C.2.1 hd ?_ ?_
  · intro q
    have := (i32_eq oy okI_0).mp q
    omega
  · rw [i32_div ox oy hx hy]
    have hv : okI (x / y) := by
      have e1 : 0 ≤ x / y := Int.ediv_nonneg hx (by omega)
      have e2 : x / y ≤ x := Int.ediv_le_self _ hx
      have e3 : 0 ≤ x % y := Int.emod_nonneg _ (by omega)
      have e4 : x % y < y := Int.emod_lt_of_pos _ hy
      unfold okI at *
      omega
    exact k p e s m args below meth c A H ls locs C hA w hS ho (ok_c hv (ok_t (ok_t h1))) h2 hl
theorem x_irem {x y : Int} (hd : decode X.2.1 pc = .ok (.irem, 1)) (hx : 0 ≤ x) (hy : 0 < y) (k : EX G X d mc ms Q (pc + 1) L (vI (x % y) :: st) h kc ks) : EX G X d mc ms Q pc L (vI y :: vI x :: st) h kc ks := by
  intro p e s m args below meth c A H ls locs C hA w hS ho h1 h2 hl
  have oy := ok_I h1
  have ox := ok_I (ok_t h1)
  refine lv_irem C.1 C.2.1 hd ?_ ?_
  · intro q
    have := (i32_eq oy okI_0).mp q
    omega
  · rw [i32_rem ox oy hx hy]
    have hv : okI (x % y) := by
      have e1 : 0 ≤ x / y := Int.ediv_nonneg hx (by omega)
      have e2 : x / y ≤ x := Int.ediv_le_self _ hx
      have e3 : 0 ≤ x % y := Int.emod_nonneg _ (by omega)
      have e4 : x % y < y := Int.emod_lt_of_pos _ hy
      unfold okI at *
      omega
    exact k p e s m args below meth c A H ls locs C hA w hS ho (ok_c hv (ok_t (ok_t h1))) h2 hl
theorem x_ldiv {x y : Int} (hd : decode X.2.1 pc = .ok (.ldiv, 1)) (hx : 0 ≤ x) (hy : 0 < y) (k : EX G X d mc ms Q (pc + 1) L (vJ (x / y) :: st) h kc ks) : EX G X d mc ms Q pc L (vJ y :: vJ x :: st) h kc ks := by
  intro p e s m args below meth c A H ls locs C hA w hS ho h1 h2 hl
  have oy := ok_J h1
  have ox := ok_J (ok_t h1)
  refine lv_ldiv C.1 C.2.1 hd ?_ ?_
  · intro q
    have := (i64_eq oy okJ_0).mp q
    omega
  · rw [i64_div ox oy hx hy]
    have hv : okJ (x / y) := by
      have e1 : 0 ≤ x / y := Int.ediv_nonneg hx (by omega)
      have e2 : x / y ≤ x := Int.ediv_le_self _ hx
      have e3 : 0 ≤ x % y := Int.emod_nonneg _ (by omega)
      have e4 : x % y < y := Int.emod_lt_of_pos _ hy
      unfold okJ at *
      omega
    exact k p e s m args below meth c A H ls locs C hA w hS ho (ok_c hv (ok_t (ok_t h1))) h2 hl
theorem x_lrem {x y : Int} (hd : decode X.2.1 pc = .ok (.lrem, 1)) (hx : 0 ≤ x) (hy : 0 < y) (k : EX G X d mc ms Q (pc + 1) L (vJ (x % y) :: st) h kc ks) : EX G X d mc ms Q pc L (vJ y :: vJ x :: st) h kc ks := by
  intro p e s m args below meth c A H ls locs C hA w hS ho h1 h2 hl
  have oy := ok_J h1
  have ox := ok_J (ok_t h1)
  refine lv_lrem C.1 C.2.1 hd ?_ ?_
  · intro q
    have := (i64_eq oy okJ_0).mp q
    omega
  · rw [i64_rem ox oy hx hy]
    have hv : okJ (x % y) := by
      have e1 : 0 ≤ x / y := Int.ediv_nonneg hx (by omega)
      have e2 : x / y ≤ x := Int.ediv_le_self _ hx
      have e3 : 0 ≤ x % y := Int.emod_nonneg _ (by omega)
      have e4 : x % y < y := Int.emod_lt_of_pos _ hy
      unfold okJ at *
      omega
    exact k p e s m args below meth c A H ls locs C hA w hS ho (ok_c hv (ok_t (ok_t h1))) h2 hl
theorem x_i2l {x : Int} (hd : decode X.2.1 pc = .ok (.i2l, 1)) (k : EX G X d mc ms Q (pc + 1) L (vJ x :: st) h kc ks) : EX G X d mc ms Q pc L (vI x :: st) h kc ks := by
  intro p e s m args below meth c A H ls locs C hA w hS ho h1 h2 hl
  exact lv_i2l C.1 C.2.1 hd (i32_i2l (ok_I h1)) (k p e s m args below meth c A H ls locs C hA w hS ho (ok_c (okJ_I (ok_I h1)) (ok_t h1)) h2 hl)
theorem x_l2i {x : Int} (hd : decode X.2.1 pc = .ok (.l2i, 1)) (hx : okI x) (k : EX G X d mc ms Q (pc + 1) L (vI x :: st) h kc ks) : EX G X d mc ms Q pc L (vJ x :: st) h kc ks := by
  intro p e s m args below meth c A H ls locs C hA w hS ho h1 h2 hl
  exact lv_l2i C.1 C.2.1 hd (i64_l2i hx) (k p e s m args below meth c A H ls locs C hA w hS ho (ok_c hx (ok_t h1)) h2 hl)
theorem x_iand {x y v : Int} (hd : decode X.2.1 pc = .ok (.iand, 1)) (hv : okI v) (he : Int32.ofInt x &&& Int32.ofInt y = Int32.ofInt v) (k : EX G X d mc ms Q (pc + 1) L (vI v :: st) h kc ks) : EX G X d mc ms Q pc L (vI y :: vI x :: st) h kc ks := by
  intro p e s m args below meth c A H ls locs C hA w hS ho h1 h2 hl
  refine lv_iand C.1 C.2.1 hd ?_
  rw [he]
  exact k p e s m args below meth c A H ls locs C hA w hS ho (ok_c hv (ok_t (ok_t h1))) h2 hl
theorem x_ishl {x y v : Int} (hd : decode X.2.1 pc = .ok (.ishl, 1)) (hv : okI v) (he : Int32.ofInt x <<< (Int32.ofInt y &&& 31) = Int32.ofInt v) (k : EX G X d mc ms Q (pc + 1) L (vI v :: st) h kc ks) : EX G X d mc ms Q pc L (vI y :: vI x :: st) h kc ks := by
  intro p e s m args below meth c A H ls locs C hA w hS ho h1 h2 hl
  refine lv_ishl C.1 C.2.1 hd ?_
  rw [he]
  exact k p e s m args below meth c A H ls locs C hA w hS ho (ok_c hv (ok_t (ok_t h1))) h2 hl
theorem x_ishr {x y v : Int} (hd : decode X.2.1 pc = .ok (.ishr, 1)) (hv : okI v) (he : Int32.ofInt x >>> (Int32.ofInt y &&& 31) = Int32.ofInt v) (k : EX G X d mc ms Q (pc + 1) L (vI v :: st) h kc ks) : EX G X d mc ms Q pc L (vI y :: vI x :: st) h kc ks := by
  intro p e s m args below meth c A H ls locs C hA w hS ho h1 h2 hl
  refine lv_ishr C.1 C.2.1 hd ?_
  rw [he]
  exact k p e s m args below meth c A H ls locs C hA w hS ho (ok_c hv (ok_t (ok_t h1))) h2 hl
theorem x_land {x y v : Int} (hd : decode X.2.1 pc = .ok (.land, 1)) (hv : okJ v) (he : Int64.ofInt x &&& Int64.ofInt y = Int64.ofInt v) (k : EX G X d mc ms Q (pc + 1) L (vJ v :: st) h kc ks) : EX G X d mc ms Q pc L (vJ y :: vJ x :: st) h kc ks := by
  intro p e s m args below meth c A H ls locs C hA w hS ho h1 h2 hl
  refine lv_land C.1 C.2.1 hd ?_
  rw [he]
  exact k p e s m args below meth c A H ls locs C hA w hS ho (ok_c hv (ok_t (ok_t h1))) h2 hl
theorem x_lshr {x y v : Int} (hd : decode X.2.1 pc = .ok (.lshr, 1)) (hv : okJ v) (he : Int64.ofInt x >>> ((Int32.ofInt y).toInt64 &&& 63) = Int64.ofInt v) (k : EX G X d mc ms Q (pc + 1) L (vJ v :: st) h kc ks) : EX G X d mc ms Q pc L (vI y :: vJ x :: st) h kc ks := by
  intro p e s m args below meth c A H ls locs C hA w hS ho h1 h2 hl
  exact lv_lshr C.1 C.2.1 hd he (k p e s m args below meth c A H ls locs C hA w hS ho (ok_c hv (ok_t (ok_t h1))) h2 hl)
theorem x_dup {v : aV} (hd : decode X.2.1 pc = .ok (.dup, 1)) (hc : (cv v).category = 1) (k : EX G X d mc ms Q (pc + 1) L (v :: v :: st) h kc ks) : EX G X d mc ms Q pc L (v :: st) h kc ks := by
  intro p e s m args below meth c A H ls locs C hA w hS ho h1 h2 hl
  exact lv_dup C.1 C.2.1 hd hc (k p e s m args below meth c A H ls locs C hA w hS ho (ok_c (ok_h h1) h1) h2 hl)
theorem x_dup2 {u v : aV} (hd : decode X.2.1 pc = .ok (.dup2, 1)) (hc : (cv u).category = 1) (hc2 : (cv v).category = 1) (k : EX G X d mc ms Q (pc + 1) L (u :: v :: u :: v :: st) h kc ks) : EX G X d mc ms Q pc L (u :: v :: st) h kc ks := by
  intro p e s m args below meth c A H ls locs C hA w hS ho h1 h2 hl
  exact lv_dup2_11 C.1 C.2.1 hd hc hc2 (k p e s m args below meth c A H ls locs C hA w hS ho (ok_c (ok_h h1) (ok_c (ok_h (ok_t h1)) h1)) h2 hl)
theorem x_dup2J {x : Int} (hd : decode X.2.1 pc = .ok (.dup2, 1)) (k : EX G X d mc ms Q (pc + 1) L (vJ x :: vJ x :: st) h kc ks) : EX G X d mc ms Q pc L (vJ x :: st) h kc ks := by
  intro p e s m args below meth c A H ls locs C hA w hS ho h1 h2 hl
  exact lv_dup2_2 C.1 C.2.1 hd rfl (k p e s m args below meth c A H ls locs C hA w hS ho (ok_c (ok_h h1) h1) h2 hl)
theorem x_goto {off : Int} (tgt : Nat) (hd : decode X.2.1 pc = .ok (.goto off, 3)) (ht : (pc : Int) + off = (tgt : Int)) (k : EX G X d mc ms Q tgt L st h kc ks) : EX G X d mc ms Q pc L st h kc ks := by
  intro p e s m args below meth c A H ls locs C hA w hS ho h1 h2 hl
  exact lv_goto C.1 C.2.1 hd ht (k p e s m args below meth c A H ls locs C hA w hS ho h1 h2 hl)
theorem x_icmp_eq {x y : Int} {off : Int} (tgt : Nat) (hd : decode X.2.1 pc = .ok (.if_icmp .eq off, 3)) (ht : (pc : Int) + off = (tgt : Int)) (kt : x = y → EX G X d mc ms Q tgt L st h kc ks) (kf : x ≠ y → EX G X d mc ms Q (pc + 3) L st h kc ks) : EX G X d mc ms Q pc L (vI y :: vI x :: st) h kc ks := by
  intro p e s m args below meth c A H ls locs C hA w hS ho h1 h2 hl
  have oy := ok_I h1
  have ox := ok_I (ok_t h1)
  exact lv_icmp_eq C.1 C.2.1 hd ht (fun q => kt ((i32_eq ox oy).mp q) p e s m args below meth c A H ls locs C hA w hS ho (ok_t (ok_t h1)) h2 hl) (fun q => kf (fun z => q ((i32_eq ox oy).mpr z)) p e s m args below meth c A H ls locs C hA w hS ho (ok_t (ok_t h1)) h2 hl)
theorem x_if_eq {x : Int} {off : Int} (tgt : Nat) (hd : decode X.2.1 pc = .ok (.ifCond .eq off, 3)) (ht : (pc : Int) + off = (tgt : Int)) (kt : x = 0 → EX G X d mc ms Q tgt L st h kc ks) (kf : x ≠ 0 → EX G X d mc ms Q (pc + 3) L st h kc ks) : EX G X d mc ms Q pc L (vI x :: st) h kc ks := by
  intro p e s m args below meth c A H ls locs C hA w hS ho h1 h2 hl
  have ox := ok_I h1
  exact lv_if_eq C.1 C.2.1 hd ht (fun q => kt ((i32_eq ox okI_0).mp q) p e s m args below meth c A H ls locs C hA w hS ho (ok_t h1) h2 hl) (fun q => kf (fun z => q ((i32_eq ox okI_0).mpr z)) p e s m args below meth c A H ls locs C hA w hS ho (ok_t h1) h2 hl)
theorem x_lc_eq {x y : Int} {off : Int} (tgt : Nat) (hd1 : decode X.2.1 pc = .ok (.lcmp, 1)) (hd : decode X.2.1 (pc + 1) = .ok (.ifCond .eq off, 3)) (ht : ((pc + 1 : Nat) : Int) + off = (tgt : Int)) (kt : x = y → EX G X d mc ms Q tgt L st h kc ks) (kf : x ≠ y → EX G X d mc ms Q (pc + 4) L st h kc ks) : EX G X d mc ms Q pc L (vJ y :: vJ x :: st) h kc ks := by
  intro p e s m args below meth c A H ls locs C hA w hS ho h1 h2 hl
  have oy := ok_J h1
  have ox := ok_J (ok_t h1)
  refine W.lcmp C.1 C.2.1 hd1 ?_
  exact lv_if_eq C.1 C.2.1 hd ht (fun q => kt ((i64_eq ox oy).mp ((lg_cmp_eq _ _).mp q)) p e s m args below meth c A H ls locs C hA w hS ho (ok_t (ok_t h1)) h2 hl) (fun q => kf (fun z => q ((lg_cmp_eq _ _).mpr ((i64_eq ox oy).mpr z))) p e s m args below meth c A H ls locs C hA w hS ho (ok_t (ok_t h1)) h2 hl)
theorem x_icmp_ne {x y : Int} {off : Int} (tgt : Nat) (hd : decode X.2.1 pc = .ok (.if_icmp .ne off, 3)) (ht : (pc : Int) + off = (tgt : Int)) (kt : x ≠ y → EX G X d mc ms Q tgt L st h kc ks) (kf : x = y → EX G X d mc ms Q (pc + 3) L st h kc ks) : EX G X d mc ms Q pc L (vI y :: vI x :: st) h kc ks := by
  intro p e s m args below meth c A H ls locs C hA w hS ho h1 h2 hl
  have oy := ok_I h1
  have ox := ok_I (ok_t h1)
  exact lv_icmp_ne C.1 C.2.1 hd ht (fun q => kt (fun z => q ((i32_eq ox oy).mpr z)) p e s m args below meth c A H ls locs C hA w hS ho (ok_t (ok_t h1)) h2 hl) (fun q => kf ((i32_eq ox oy).mp q) p e s m args below meth c A H ls locs C hA w hS ho (ok_t (ok_t h1)) h2 hl)
theorem x_if_ne {x : Int} {off : Int} (tgt : Nat) (hd : decode X.2.1 pc = .ok (.ifCond .ne off, 3)) (ht : (pc : Int) + off = (tgt : Int)) (kt : x ≠ 0 → EX G X d mc ms Q tgt L st h kc ks) (kf : x = 0 → EX G X d mc ms Q (pc + 3) L st h kc ks) : EX G X d mc ms Q pc L (vI x :: st) h kc ks := by
  intro p e s m args below meth c A H ls locs C hA w hS ho h1 h2 hl
  have ox := ok_I h1
  exact lv_if_ne C.1 C.2.1 hd ht (fun q => kt (fun z => q ((i32_eq ox okI_0).mpr z)) p e s m args below meth c A H ls locs C hA w hS ho (ok_t h1) h2 hl) (fun q => kf ((i32_eq ox okI_0).mp q) p e s m args below meth c A H ls locs C hA w hS ho (ok_t h1) h2 hl)
theorem x_lc_ne {x y : Int} {off : Int} (tgt : Nat) (hd1 : decode X.2.1 pc = .ok (.lcmp, 1)) (hd : decode X.2.1 (pc + 1) = .ok (.ifCond .ne off, 3)) (ht : ((pc + 1 : Nat) : Int) + off = (tgt : Int)) (kt : x ≠ y → EX G X d mc ms Q tgt L st h kc ks) (kf : x = y → EX G X d mc ms Q (pc + 4) L st h kc ks) : EX G X d mc ms Q pc L (vJ y :: vJ x :: st) h kc ks := by
  intro p e s m args below meth c A H ls locs C hA w hS ho h1 h2 hl
  have oy := ok_J h1
  have ox := ok_J (ok_t h1)
  refine W.lcmp C.1 C.2.1 hd1 ?_
  exact lv_if_ne C.1 C.2.1 hd ht (fun q => kt (fun z => q ((lg_cmp_eq _ _).mpr ((i64_eq ox oy).mpr z))) p e s m args below meth c A H ls locs C hA w hS ho (ok_t (ok_t h1)) h2 hl) (fun q => kf ((i64_eq ox oy).mp ((lg_cmp_eq _ _).mp q)) p e s m args below meth c A H ls locs C hA w hS ho (ok_t (ok_t h1)) h2 hl)
theorem x_icmp_lt {x y : Int} {off : Int} (tgt : Nat) (hd : decode X.2.1 pc = .ok (.if_icmp .lt off, 3)) (ht : (pc : Int) + off = (tgt : Int)) (kt : x < y → EX G X d mc ms Q tgt L st h kc ks) (kf : y ≤ x → EX G X d mc ms Q (pc + 3) L st h kc ks) : EX G X d mc ms Q pc L (vI y :: vI x :: st) h kc ks := by
  intro p e s m args below meth c A H ls locs C hA w hS ho h1 h2 hl
  have oy := ok_I h1
  have ox := ok_I (ok_t h1)
  exact lv_icmp_lt C.1 C.2.1 hd ht (fun q => kt ((i32_lt ox oy).mp q) p e s m args below meth c A H ls locs C hA w hS ho (ok_t (ok_t h1)) h2 hl) (fun q => kf (Int.not_lt.mp fun z => q ((i32_lt ox oy).mpr z)) p e s m args below meth c A H ls locs C hA w hS ho (ok_t (ok_t h1)) h2 hl)
theorem x_if_lt {x : Int} {off : Int} (tgt : Nat) (hd : decode X.2.1 pc = .ok (.ifCond .lt off, 3)) (ht : (pc : Int) + off = (tgt : Int)) (kt : x < 0 → EX G X d mc ms Q tgt L st h kc ks) (kf : 0 ≤ x → EX G X d mc ms Q (pc + 3) L st h kc ks) : EX G X d mc ms Q pc L (vI x :: st) h kc ks := by
  intro p e s m args below meth c A H ls locs C hA w hS ho h1 h2 hl
  have ox := ok_I h1
  exact lv_if_lt C.1 C.2.1 hd ht (fun q => kt ((i32_lt ox okI_0).mp q) p e s m args below meth c A H ls locs C hA w hS ho (ok_t h1) h2 hl) (fun q => kf (Int.not_lt.mp fun z => q ((i32_lt ox okI_0).mpr z)) p e s m args below meth c A H ls locs C hA w hS ho (ok_t h1) h2 hl)
theorem x_lc_lt {x y : Int} {off : Int} (tgt : Nat) (hd1 : decode X.2.1 pc = .ok (.lcmp, 1)) (hd : decode X.2.1 (pc + 1) = .ok (.ifCond .lt off, 3)) (ht : ((pc + 1 : Nat) : Int) + off = (tgt : Int)) (kt : x < y → EX G X d mc ms Q tgt L st h kc ks) (kf : y ≤ x → EX G X d mc ms Q (pc + 4) L st h kc ks) : EX G X d mc ms Q pc L (vJ y :: vJ x :: st) h kc ks := by
  intro p e s m args below meth c A H ls locs C hA w hS ho h1 h2 hl
  have oy := ok_J h1
  have ox := ok_J (ok_t h1)
  refine W.lcmp C.1 C.2.1 hd1 ?_
  exact lv_if_lt C.1 C.2.1 hd ht (fun q => kt ((i64_lt ox oy).mp ((lg_cmp_lt _ _).mp q)) p e s m args below meth c A H ls locs C hA w hS ho (ok_t (ok_t h1)) h2 hl) (fun q => kf (Int.not_lt.mp fun z => q ((lg_cmp_lt _ _).mpr ((i64_lt ox oy).mpr z))) p e s m args below meth c A H ls locs C hA w hS ho (ok_t (ok_t h1)) h2 hl)
theorem x_icmp_ge {x y : Int} {off : Int} (tgt : Nat) (hd : decode X.2.1 pc = .ok (.if_icmp .ge off, 3)) (ht : (pc : Int) + off = (tgt : Int)) (kt : y ≤ x → EX G X d mc ms Q tgt L st h kc ks) (kf : x < y → EX G X d mc ms Q (pc + 3) L st h kc ks) : EX G X d mc ms Q pc L (vI y :: vI x :: st) h kc ks := by
  intro p e s m args below meth c A H ls locs C hA w hS ho h1 h2 hl
  have oy := ok_I h1
  have ox := ok_I (ok_t h1)
  exact lv_icmp_ge C.1 C.2.1 hd ht (fun q => kt ((i32_le oy ox).mp q) p e s m args below meth c A H ls locs C hA w hS ho (ok_t (ok_t h1)) h2 hl) (fun q => kf (Int.not_le.mp fun z => q ((i32_le oy ox).mpr z)) p e s m args below meth c A H ls locs C hA w hS ho (ok_t (ok_t h1)) h2 hl)
theorem x_if_ge {x : Int} {off : Int} (tgt : Nat) (hd : decode X.2.1 pc = .ok (.ifCond .ge off, 3)) (ht : (pc : Int) + off = (tgt : Int)) (kt : 0 ≤ x → EX G X d mc ms Q tgt L st h kc ks) (kf : x < 0 → EX G X d mc ms Q (pc + 3) L st h kc ks) : EX G X d mc ms Q pc L (vI x :: st) h kc ks := by
  intro p e s m args below meth c A H ls locs C hA w hS ho h1 h2 hl
  have ox := ok_I h1
  exact lv_if_ge C.1 C.2.1 hd ht (fun q => kt ((i32_le okI_0 ox).mp q) p e s m args below meth c A H ls locs C hA w hS ho (ok_t h1) h2 hl) (fun q => kf (Int.not_le.mp fun z => q ((i32_le okI_0 ox).mpr z)) p e s m args below meth c A H ls locs C hA w hS ho (ok_t h1) h2 hl)
theorem x_lc_ge {x y : Int} {off : Int} (tgt : Nat) (hd1 : decode X.2.1 pc = .ok (.lcmp, 1)) (hd : decode X.2.1 (pc + 1) = .ok (.ifCond .ge off, 3)) (ht : ((pc + 1 : Nat) : Int) + off = (tgt : Int)) (kt : y ≤ x → EX G X d mc ms Q tgt L st h kc ks) (kf : x < y → EX G X d mc ms Q (pc + 4) L st h kc ks) : EX G X d mc ms Q pc L (vJ y :: vJ x :: st) h kc ks := by
  intro p e s m args below meth c A H ls locs C hA w hS ho h1 h2 hl
  have oy := ok_J h1
  have ox := ok_J (ok_t h1)
  refine W.lcmp C.1 C.2.1 hd1 ?_
  exact lv_if_ge C.1 C.2.1 hd ht (fun q => kt ((i64_le oy ox).mp ((lg_cmp_ge _ _).mp q)) p e s m args below meth c A H ls locs C hA w hS ho (ok_t (ok_t h1)) h2 hl) (fun q => kf (Int.not_le.mp fun z => q ((lg_cmp_ge _ _).mpr ((i64_le oy ox).mpr z))) p e s m args below meth c A H ls locs C hA w hS ho (ok_t (ok_t h1)) h2 hl)
theorem x_icmp_gt {x y : Int} {off : Int} (tgt : Nat) (hd : decode X.2.1 pc = .ok (.if_icmp .gt off, 3)) (ht : (pc : Int) + off = (tgt : Int)) (kt : y < x → EX G X d mc ms Q tgt L st h kc ks) (kf : x ≤ y → EX G X d mc ms Q (pc + 3) L st h kc ks) : EX G X d mc ms Q pc L (vI y :: vI x :: st) h kc ks := by
  intro p e s m args below meth c A H ls locs C hA w hS ho h1 h2 hl
  have oy := ok_I h1
  have ox := ok_I (ok_t h1)
  exact lv_icmp_gt C.1 C.2.1 hd ht (fun q => kt ((i32_lt oy ox).mp q) p e s m args below meth c A H ls locs C hA w hS ho (ok_t (ok_t h1)) h2 hl) (fun q => kf (Int.not_lt.mp fun z => q ((i32_lt oy ox).mpr z)) p e s m args below meth c A H ls locs C hA w hS ho (ok_t (ok_t h1)) h2 hl)
theorem x_if_gt {x : Int} {off : Int} (tgt : Nat) (hd : decode X.2.1 pc = .ok (.ifCond .gt off, 3)) (ht : (pc : Int) + off = (tgt : Int)) (kt : 0 < x → EX G X d mc ms Q tgt L st h kc ks) (kf : x ≤ 0 → EX G X d mc ms Q (pc + 3) L st h kc ks) : EX G X d mc ms Q pc L (vI x :: st) h kc ks := by
  intro p e s m args below meth c A H ls locs C hA w hS ho h1 h2 hl
  have ox := ok_I h1
  exact lv_if_gt C.1 C.2.1 hd ht (fun q => kt ((i32_lt okI_0 ox).mp q) p e s m args below meth c A H ls locs C hA w hS ho (ok_t h1) h2 hl) (fun q => kf (Int.not_lt.mp fun z => q ((i32_lt okI_0 ox).mpr z)) p e s m args below meth c A H ls locs C hA w hS ho (ok_t h1) h2 hl)
theorem x_lc_gt {x y : Int} {off : Int} (tgt : Nat) (hd1 : decode X.2.1 pc = .ok (.lcmp, 1)) (hd : decode X.2.1 (pc + 1) = .ok (.ifCond .gt off, 3)) (ht : ((pc + 1 : Nat) : Int) + off = (tgt : Int)) (kt : y < x → EX G X d mc ms Q tgt L st h kc ks) (kf : x ≤ y → EX G X d mc ms Q (pc + 4) L st h kc ks) : EX G X d mc ms Q pc L (vJ y :: vJ x :: st) h kc ks := by
  intro p e s m args below meth c A H ls locs C hA w hS ho h1 h2 hl
  have oy := ok_J h1
  have ox := ok_J (ok_t h1)
  refine W.lcmp C.1 C.2.1 hd1 ?_
  exact lv_if_gt C.1 C.2.1 hd ht (fun q => kt ((i64_lt oy ox).mp ((lg_cmp_gt _ _).mp q)) p e s m args below meth c A H ls locs C hA w hS ho (ok_t (ok_t h1)) h2 hl) (fun q => kf (Int.not_lt.mp fun z => q ((lg_cmp_gt _ _).mpr ((i64_lt oy ox).mpr z))) p e s m args below meth c A H ls locs C hA w hS ho (ok_t (ok_t h1)) h2 hl)
theorem x_icmp_le {x y : Int} {off : Int} (tgt : Nat) (hd : decode X.2.1 pc = .ok (.if_icmp .le off, 3)) (ht : (pc : Int) + off = (tgt : Int)) (kt : x ≤ y → EX G X d mc ms Q tgt L st h kc ks) (kf : y < x → EX G X d mc ms Q (pc + 3) L st h kc ks) : EX G X d mc ms Q pc L (vI y :: vI x :: st) h kc ks := by
  intro p e s m args below meth c A H ls locs C hA w hS ho h1 h2 hl
  have oy := ok_I h1
  have ox := ok_I (ok_t h1)
  exact lv_icmp_le C.1 C.2.1 hd ht (fun q => kt ((i32_le ox oy).mp q) p e s m args below meth c A H ls locs C hA w hS ho (ok_t (ok_t h1)) h2 hl) (fun q => kf (Int.not_le.mp fun z => q ((i32_le ox oy).mpr z)) p e s m args below meth c A H ls locs C hA w hS ho (ok_t (ok_t h1)) h2 hl)
theorem x_if_le {x : Int} {off : Int} (tgt : Nat) (hd : decode X.2.1 pc = .ok (.ifCond .le off, 3)) (ht : (pc : Int) + off = (tgt : Int)) (kt : x ≤ 0 → EX G X d mc ms Q tgt L st h kc ks) (kf : 0 < x → EX G X d mc ms Q (pc + 3) L st h kc ks) : EX G X d mc ms Q pc L (vI x :: st) h kc ks := by
  intro p e s m args below meth c A H ls locs C hA w hS ho h1 h2 hl
  have ox := ok_I h1
  exact lv_if_le C.1 C.2.1 hd ht (fun q => kt ((i32_le ox okI_0).mp q) p e s m args below meth c A H ls locs C hA w hS ho (ok_t h1) h2 hl) (fun q => kf (Int.not_le.mp fun z => q ((i32_le ox okI_0).mpr z)) p e s m args below meth c A H ls locs C hA w hS ho (ok_t h1) h2 hl)
theorem x_lc_le {x y : Int} {off : Int} (tgt : Nat) (hd1 : decode X.2.1 pc = .ok (.lcmp, 1)) (hd : decode X.2.1 (pc + 1) = .ok (.ifCond .le off, 3)) (ht : ((pc + 1 : Nat) : Int) + off = (tgt : Int)) (kt : x ≤ y → EX G X d mc ms Q tgt L st h kc ks) (kf : y < x → EX G X d mc ms Q (pc + 4) L st h kc ks) : EX G X d mc ms Q pc L (vJ y :: vJ x :: st) h kc ks := by
  intro p e s m args below meth c A H ls locs C hA w hS ho h1 h2 hl
  have oy := ok_J h1
  have ox := ok_J (ok_t h1)
  refine W.lcmp C.1 C.2.1 hd1 ?_
  exact lv_if_le C.1 C.2.1 hd ht (fun q => kt ((i64_le ox oy).mp ((lg_cmp_le _ _).mp q)) p e s m args below meth c A H ls locs C hA w hS ho (ok_t (ok_t h1)) h2 hl) (fun q => kf (Int.not_le.mp fun z => q ((lg_cmp_le _ _).mpr ((i64_le ox oy).mpr z))) p e s m args below meth c A H ls locs C hA w hS ho (ok_t (ok_t h1)) h2 hl)
theorem x_ifnull {r : Option Nat} {off : Int} (tgt : Nat) (hd : decode X.2.1 pc = .ok (.ifnull off, 3)) (ht : (pc : Int) + off = (tgt : Int)) (kt : (r = none) → EX G X d mc ms Q tgt L st h kc ks) (kf : (∃ a, r = some a) → EX G X d mc ms Q (pc + 3) L st h kc ks) : EX G X d mc ms Q pc L (vR r :: st) h kc ks := by
  intro p e s m args below meth c A H ls locs C hA w hS ho h1 h2 hl
  cases r with
  | none => exact lv_ifnullN C.1 C.2.1 hd ht (kt rfl p e s m args below meth c A H ls locs C hA w hS ho (ok_t h1) h2 hl)
  | some a => exact lv_ifnull C.1 C.2.1 hd (kf ⟨a, rfl⟩ p e s m args below meth c A H ls locs C hA w hS ho (ok_t h1) h2 hl)
theorem x_ifnonnull {r : Option Nat} {off : Int} (tgt : Nat) (hd : decode X.2.1 pc = .ok (.ifnonnull off, 3)) (ht : (pc : Int) + off = (tgt : Int)) (kt : (∃ a, r = some a) → EX G X d mc ms Q tgt L st h kc ks) (kf : (r = none) → EX G X d mc ms Q (pc + 3) L st h kc ks) : EX G X d mc ms Q pc L (vR r :: st) h kc ks := by
  intro p e s m args below meth c A H ls locs C hA w hS ho h1 h2 hl
  cases r with
  | none => exact lv_ifnonnullN C.1 C.2.1 hd (kf rfl p e s m args below meth c A H ls locs C hA w hS ho (ok_t h1) h2 hl)
  | some a => exact lv_ifnonnull C.1 C.2.1 hd ht (kt ⟨a, rfl⟩ p e s m args below meth c A H ls locs C hA w hS ho (ok_t h1) h2 hl)
theorem x_tableOut {x dflt lo hi : Int} {offs : Array Int} {len : Nat} (tgt : Nat) (hd : decode X.2.1 pc = .ok (.tableswitch dflt lo hi offs, len)) (hx : x < lo ∨ hi < x) (ht : (pc : Int) + dflt = (tgt : Int)) (k : EX G X d mc ms Q tgt L st h kc ks) : EX G X d mc ms Q pc L (vI x :: st) h kc ks := by
  intro p e s m args below meth c A H ls locs C hA w hS ho h1 h2 hl
  refine lv_tableOut C.1 C.2.1 hd ?_ ht (k p e s m args below meth c A H ls locs C hA w hS ho (ok_t h1) h2 hl)
  rw [i32_to (ok_I h1)]; exact hx
theorem x_tableIn {x dflt lo hi off : Int} {offs : Array Int} {len : Nat} (tgt : Nat) (hd : decode X.2.1 pc = .ok (.tableswitch dflt lo hi offs, len)) (hx1 : lo ≤ x) (hx2 : x ≤ hi) (hoff : offs[(x - lo).toNat]? = some off) (ht : (pc : Int) + off = (tgt : Int)) (k : EX G X d mc ms Q tgt L st h kc ks) : EX G X d mc ms Q pc L (vI x :: st) h kc ks := by
  intro p e s m args below meth c A H ls locs C hA w hS ho h1 h2 hl
  refine lv_tableIn C.1 C.2.1 hd (off := off) ?_ ?_ ?_ ht (k p e s m args below meth c A H ls locs C hA w hS ho (ok_t h1) h2 hl)
  · rw [i32_to (ok_I h1)]; omega
  · rw [i32_to (ok_I h1)]; omega
  · rw [i32_to (ok_I h1)]; exact hoff
theorem x_end {s : State} {args : Array Value} {A : Nat → Prop} {H : Heap} {locs : List Loc} {r : Option aV} (w : aWd G A h H) (hS : va_S A s.heap H locs) (ho : okH h) (hr : ∀ v, r = some v → okV v) (hq : Q r h) : ∀ t : State, t.heap = H → s.WarmedH t.vm → aQ G A Q args s (.returned (r.map cv)) t := by
  intro t ht _
  exact ⟨⟨r, h, hq, rfl, by rw [ht]; exact w, ho, hr⟩, hS.F ht⟩
theorem x_ireturn {x : Int} (hd : decode X.2.1 pc = .ok (.ireturn, 1)) (hr : X.2.2.2 = some .int) (hc : kc ≤ mc) (hs : ks ≤ ms) (hq : Q (some (vI x)) h) : EX G X d mc ms Q pc L [vI x] h kc ks := by
  intro p e s m args below meth c A H ls locs C hA w hS ho h1 h2 hl
  refine W.widen hc hs ?_
  exact W.iret (v := Int32.ofInt x) C.1 C.2.1 (C.2.2.2.1.trans hr) (x_end (r := some (vI x)) w hS ho (fun v hv => by cases hv; exact ok_I h1) hq) hS.2.2 hd C.2.2.2.2.2.2.1
theorem x_zreturn {x : Int} (hd : decode X.2.1 pc = .ok (.ireturn, 1)) (hr : X.2.2.2 = some .boolean) (hx : x = 0 ∨ x = 1) (hc : kc ≤ mc) (hs : ks ≤ ms) (hq : Q (some (vI x)) h) : EX G X d mc ms Q pc L [vI x] h kc ks := by
  intro p e s m args below meth c A H ls locs C hA w hS ho h1 h2 hl
  refine W.widen hc hs ?_
  refine W.zret (v := Int32.ofInt x) C.1 C.2.1 (C.2.2.2.1.trans hr) ?_ (x_end (r := some (vI x)) w hS ho (fun v hv => by cases hv; exact ok_I h1) hq) hS.2.2 hd C.2.2.2.2.2.2.1
  rcases hx with rfl | rfl <;> decide +kernel
theorem x_lreturn {x : Int} (hd : decode X.2.1 pc = .ok (.lreturn, 1)) (hr : X.2.2.2 = some .long) (hc : kc ≤ mc) (hs : ks ≤ ms) (hq : Q (some (vJ x)) h) : EX G X d mc ms Q pc L [vJ x] h kc ks := by
  intro p e s m args below meth c A H ls locs C hA w hS ho h1 h2 hl
  refine W.widen hc hs ?_
  exact W.lret (v := Int64.ofInt x) C.1 C.2.1 (C.2.2.2.1.trans hr) (x_end (r := some (vJ x)) w hS ho (fun v hv => by cases hv; exact ok_J h1) hq) hS.2.2 hd C.2.2.2.2.2.2.1
theorem x_areturn {r : Option Nat} {ty : FieldType} (hd : decode X.2.1 pc = .ok (.areturn, 1)) (hr : X.2.2.2 = some ty) (hty : (∃ n, ty = .object n) ∨ ∃ t, ty = .array t) (hc : kc ≤ mc) (hs : ks ≤ ms) (hq : Q (some (vR r)) h) : EX G X d mc ms Q pc L [vR r] h kc ks := by
  intro p e s m args below meth c A H ls locs C hA w hS ho h1 h2 hl
  refine W.widen hc hs ?_
  exact W.aret (v := va_rf r) C.1 C.2.1 (C.2.2.2.1.trans hr) hty (va_rf_or r) (x_end (r := some (vR r)) w hS ho (fun v hv => by cases hv; trivial) hq) hS.2.2 hd C.2.2.2.2.2.2.1
theorem x_return (hd : decode X.2.1 pc = .ok (.return_, 1)) (hr : X.2.2.2 = none) (hc : kc ≤ mc) (hs : ks ≤ ms) (hq : Q none h) : EX G X d mc ms Q pc L [] h kc ks := by
  intro p e s m args below meth c A H ls locs C hA w hS ho h1 h2 hl
  refine W.widen hc hs ?_
  exact W.vret C.1 C.2.1 (C.2.2.2.1.trans hr) (x_end (r := none) w hS ho (fun v hv => by cases hv) hq) hS.2.2 hd C.2.2.2.2.2.2.1
end XR
end
section
/-! ===== the rows of EX on cells: arrays, fields, new objects ===== -/
section XH
variable {G : aG} {X : aM} {d mc ms : Nat} {Q : Option aV → aH → Prop} {pc : Nat} {L L' : List (Nat × aV)} {st : List aV} {h : aH} {kc ks : Nat}
theorem x_iaload {a n : Nat} {g : Nat → Int} {i : Int} (hd : decode X.2.1 pc = .ok (.iaload, 1)) (ha : h a = some (eI n g)) (hi0 : 0 ≤ i) (hin : i < n) (k : EX G X d mc ms Q (pc + 1) L (vI (g i.toNat) :: st) h kc ks) : EX G X d mc ms Q pc L (vI i :: vA a :: st) h kc ks := by
  intro p e s m args below meth c A H ls locs C hA w hS ho h1 h2 hl
  obtain ⟨Ls, q, hP, hD, hL, hm, hk⟩ := w.get ha
  have oi := ok_I h1
  refine va_iald C.1 C.2.1 C.2.2.2.2.2.2.2.2.1 hP q 0 hk rfl (i32_in oi hi0 hin) hd ?_
  rw [i32_nat oi hi0]
  exact k p e s m args below meth c A H ls locs C hA w hS ho (ok_c (ho a _ ha _) (ok_t (ok_t h1))) h2 hl
theorem x_laload {a n : Nat} {g : Nat → Int} {i : Int} (hd : decode X.2.1 pc = .ok (.laload, 1)) (ha : h a = some (eJ n g)) (hi0 : 0 ≤ i) (hin : i < n) (k : EX G X d mc ms Q (pc + 1) L (vJ (g i.toNat) :: st) h kc ks) : EX G X d mc ms Q pc L (vI i :: vA a :: st) h kc ks := by
  intro p e s m args below meth c A H ls locs C hA w hS ho h1 h2 hl
  obtain ⟨Ls, q, hP, hD, hL, hm, hk⟩ := w.get ha
  have oi := ok_I h1
  refine va_lald C.1 C.2.1 C.2.2.2.2.2.2.2.2.1 hP q 1 hk rfl (i32_in oi hi0 hin) hd ?_
  rw [i32_nat oi hi0]
  exact k p e s m args below meth c A H ls locs C hA w hS ho (ok_c (ho a _ ha _) (ok_t (ok_t h1))) h2 hl
theorem x_aaload {a n : Nat} {r : Nat → Option Nat} {i : Int} (hd : decode X.2.1 pc = .ok (.aaload, 1)) (ha : h a = some (eR n r)) (hi0 : 0 ≤ i) (hin : i < n) (k : EX G X d mc ms Q (pc + 1) L (vR (r i.toNat) :: st) h kc ks) : EX G X d mc ms Q pc L (vI i :: vA a :: st) h kc ks := by
  intro p e s m args below meth c A H ls locs C hA w hS ho h1 h2 hl
  obtain ⟨Ls, q, hP, hD, hL, hm, hk⟩ := w.get ha
  have oi := ok_I h1
  refine va_aldq C.1 C.2.1 C.2.2.2.2.2.2.2.2.1 hP q 2 hk rfl (i32_in oi hi0 hin) hd ?_
  rw [i32_nat oi hi0]
  exact k p e s m args below meth c A H ls locs C hA w hS ho (ok_c trivial (ok_t (ok_t h1))) h2 hl
theorem updL_cv (g : Nat → Int) (j : Nat) (x : Int) : vp_updL (fun i => Int64.ofInt (g i)) j (Int64.ofInt x) = fun i => Int64.ofInt (va_up g j x i) := by
  funext i
  simp only [vp_updL, va_up]
  by_cases hi : i = j <;> simp [hi]
theorem upd_cv (g : Nat → Int) (j : Nat) (x : Int) : upd (fun i => Int32.ofInt (g i)) j (Int32.ofInt x) = fun i => Int32.ofInt (va_up g j x i) := by
  funext i
  simp only [upd, va_up]
  by_cases hi : i = j <;> simp [hi]
theorem okup {P : Int → Prop} {g : Nat → Int} {j : Nat} {x : Int} (hg : ∀ i, P (g i)) (hx : P x) : ∀ i, P (va_up g j x i) := by
  intro i
  simp only [va_up]
  by_cases hi : i = j <;> simp [hi, hx, hg]
theorem x_lastore {a n : Nat} {g : Nat → Int} {i x : Int} (hd : decode X.2.1 pc = .ok (.lastore, 1)) (ha : h a = some (eJ n g)) (hi0 : 0 ≤ i) (hin : i < n) (k : EX G X d mc ms Q (pc + 1) L st (hset h a (eJ n (va_up g i.toNat x))) kc ks) : EX G X d mc ms Q pc L (vJ x :: vI i :: vA a :: st) h kc ks := by
  intro p e s m args below meth c A H ls locs C hA w hS ho h1 h2 hl
  obtain ⟨Ls, q, hP, hD, hL, hm, hk⟩ := w.get ha
  have oi := ok_I (ok_t h1)
  refine va_last (A := A) C.1 C.2.1 C.2.2.2.2.2.2.2.2.1 hP hD hS q 1 hk rfl (i32_in oi hi0 hin) hd fun H1 locs1 hP1 hD1 hS1 => ?_
  rw [i32_nat oi hi0, updL_cv] at hP1 hD1
  exact k p e s m args below meth c A H1 ls locs1 C hA (aWd.upd ha hD hL hm hk (e := eJ n (va_up g i.toNat x)) hP1 hD1) hS1 (ho.set (okup (P := okJ) (ho a _ ha) (ok_J h1))) (ok_t (ok_t (ok_t h1))) h2 hl
theorem x_iastore {a n : Nat} {g : Nat → Int} {i x : Int} (hd : decode X.2.1 pc = .ok (.iastore, 1)) (ha : h a = some (eI n g)) (hi0 : 0 ≤ i) (hin : i < n) (k : EX G X d mc ms Q (pc + 1) L st (hset h a (eI n (va_up g i.toNat x))) kc ks) : EX G X d mc ms Q pc L (vI x :: vI i :: vA a :: st) h kc ks := by
  intro p e s m args below meth c A H ls locs C hA w hS ho h1 h2 hl
  obtain ⟨Ls, q, hP, hD, hL, hm, hk⟩ := w.get ha
  have oi := ok_I (ok_t h1)
  refine va_iast (A := A) C.1 C.2.1 C.2.2.2.2.2.2.2.2.1 hP hD hS q 0 hk rfl (i32_in oi hi0 hin) hd fun H1 locs1 hP1 hD1 hS1 => ?_
  rw [i32_nat oi hi0, upd_cv] at hP1 hD1
  exact k p e s m args below meth c A H1 ls locs1 C hA (aWd.upd ha hD hL hm hk (e := eI n (va_up g i.toNat x)) hP1 hD1) hS1 (ho.set (okup (P := okI) (ho a _ ha) (ok_I h1))) (ok_t (ok_t (ok_t h1))) h2 hl
theorem x_aastoreN {a n : Nat} {r : Nat → Option Nat} {i : Int} (hd : decode X.2.1 pc = .ok (.aastore, 1)) (ha : h a = some (eR n r)) (hi0 : 0 ≤ i) (hin : i < n) (k : EX G X d mc ms Q (pc + 1) L st (hset h a (eR n (va_up r i.toNat none))) kc ks) : EX G X d mc ms Q pc L (vN :: vI i :: vA a :: st) h kc ks := by
  intro p e s m args below meth c A H ls locs C hA w hS ho h1 h2 hl
  obtain ⟨Ls, q, hP, hD, hL, hm, hk⟩ := w.get ha
  have oi := ok_I (ok_t h1)
  refine va_astqN (A := A) C.1 C.2.1 C.2.2.2.2.2.2.2.2.1 hP hD hS q 2 hk rfl (i32_in oi hi0 hin) hd fun H1 locs1 hP1 hD1 hS1 => ?_
  rw [i32_nat oi hi0] at hP1 hD1
  exact k p e s m args below meth c A H1 ls locs1 C hA (aWd.upd ha hD hL hm hk (e := eR n (va_up r i.toNat none)) hP1 hD1) hS1 (ho.set trivial) (ok_t (ok_t (ok_t h1))) h2 hl
/-- a curve of a kind comes into an array of curves -/
theorem x_aastore {a n b ci : Nat} {fs : List aV} {r : Nat → Option Nat} {i : Int} (hd : decode X.2.1 pc = .ok (.aastore, 1)) (ha : h a = some (eR n r)) (hb : h b = some (eO ci fs)) (hci : ci ∈ [0, 1, 2, 4, 6]) (hi0 : 0 ≤ i) (hin : i < n) (k : EX G X d mc ms Q (pc + 1) L st (hset h a (eR n (va_up r i.toNat (some b)))) kc ks) : EX G X d mc ms Q pc L (vA b :: vI i :: vA a :: st) h kc ks := by
  intro p e s m args below meth c A H ls locs C hA w hS ho h1 h2 hl
  obtain ⟨Ls, q, hP, hD, hL, hm, hk⟩ := w.get ha
  have oi := ok_I (ok_t h1)
  have hbm : b ∈ Ls := (hL b).mpr (by rw [hb]; rfl)
  obtain ⟨qb, hkb⟩ := va_pl_get (X := []) (f := ceh G h) hbm
  rw [List.nil_append, ceh_at G hb] at hkb
  have fin : ∀ (H1 : Heap) (locs1 : List Loc), va_P (gD G) vwCl ((va_pl Ls (ceh G h)).set q (a, .inl (G.2.2.2.2.2, n, .inr (.inr (.inr (.inr (va_up r (Int32.ofInt i).toNatClampNeg (some b)))))))) H1 → va_D A ((va_pl Ls (ceh G h)).set q (a, .inl (G.2.2.2.2.2, n, .inr (.inr (.inr (.inr (va_up r (Int32.ofInt i).toNatClampNeg (some b)))))))) → va_S A s.heap H1 locs1 → W p G.1 e (aRm d mc ms) s m args below meth c H1 locs1 kc ks (MQ below (aQ G A Q) args s mc ms A) (F0 m (pc + 1) ls (st.map cv)) := by
    intro H1 locs1 hP1 hD1 hS1
    rw [i32_nat oi hi0] at hP1 hD1
    exact k p e s m args below meth c A H1 ls locs1 C hA (aWd.upd ha hD hL hm hk (e := eR n (va_up r i.toNat (some b))) hP1 hD1) hS1 (ho.set trivial) (ok_t (ok_t (ok_t h1))) h2 hl
  have hn := C.2.2.2.2.2.2.2.2.2.2
  simp only [List.mem_cons, List.not_mem_nil, or_false] at hci
  rcases hci with rfl | rfl | rfl | rfl | rfl
  · exact va_astqO (A := A) (E := RX1) C.1 C.2.1 C.2.2.2.2.2.2.2.2.1 hP hD hS q 2 qb 0 hk rfl (hn (.castable RX0 RX1) (by decide +kernel)) hkb rfl (i32_in oi hi0 hin) hd fin
  · exact va_astq (A := A) C.1 C.2.1 C.2.2.2.2.2.2.2.2.1 hP hD hS q 2 qb 1 hk rfl hkb rfl (i32_in oi hi0 hin) hd fin
  · exact va_astqO (A := A) (E := RX1) C.1 C.2.1 C.2.2.2.2.2.2.2.2.1 hP hD hS q 2 qb 2 hk rfl (hn (.castable RX2 RX1) (by decide +kernel)) hkb rfl (i32_in oi hi0 hin) hd fin
  · exact va_astqO (A := A) (E := RX1) C.1 C.2.1 C.2.2.2.2.2.2.2.2.1 hP hD hS q 2 qb 4 hk rfl (hn (.castable RX5 RX1) (by decide +kernel)) hkb rfl (i32_in oi hi0 hin) hd fin
  · exact va_astqO (A := A) (E := RX1) C.1 C.2.1 C.2.2.2.2.2.2.2.2.1 hP hD hS q 2 qb 6 hk rfl (hn (.castable RX7 RX1) (by decide +kernel)) hkb rfl (i32_in oi hi0 hin) hd fin
theorem i32_ofNat (n : Nat) : Int32.ofNat n = Int32.ofInt (n : Int) := (Int32.ofInt_eq_ofNat (n := n)).symm
theorem x_alenJ {a n : Nat} {g : Nat → Int} (hd : decode X.2.1 pc = .ok (.arraylength, 1)) (ha : h a = some (eJ n g)) (hn : n ≤ 2147483647) (k : EX G X d mc ms Q (pc + 1) L (vI (n : Int) :: st) h kc ks) : EX G X d mc ms Q pc L (vA a :: st) h kc ks := by
  intro p e s m args below meth c A H ls locs C hA w hS ho h1 h2 hl
  obtain ⟨Ls, q, hP, hD, hL, hm, hk⟩ := w.get ha
  exact va_alen C.1 C.2.1 C.2.2.2.2.2.2.2.2.1 hP q 1 hk rfl (i32_ofNat n) hd (k p e s m args below meth c A H ls locs C hA w hS ho (ok_c (show okI _ by unfold okI; omega) (ok_t h1)) h2 hl)
theorem x_alenI {a n : Nat} {g : Nat → Int} (hd : decode X.2.1 pc = .ok (.arraylength, 1)) (ha : h a = some (eI n g)) (hn : n ≤ 2147483647) (k : EX G X d mc ms Q (pc + 1) L (vI (n : Int) :: st) h kc ks) : EX G X d mc ms Q pc L (vA a :: st) h kc ks := by
  intro p e s m args below meth c A H ls locs C hA w hS ho h1 h2 hl
  obtain ⟨Ls, q, hP, hD, hL, hm, hk⟩ := w.get ha
  exact va_alen C.1 C.2.1 C.2.2.2.2.2.2.2.2.1 hP q 0 hk rfl (i32_ofNat n) hd (k p e s m args below meth c A H ls locs C hA w hS ho (ok_c (show okI _ by unfold okI; omega) (ok_t h1)) h2 hl)
theorem x_alenR {a n : Nat} {r : Nat → Option Nat} (hd : decode X.2.1 pc = .ok (.arraylength, 1)) (ha : h a = some (eR n r)) (hn : n ≤ 2147483647) (k : EX G X d mc ms Q (pc + 1) L (vI (n : Int) :: st) h kc ks) : EX G X d mc ms Q pc L (vA a :: st) h kc ks := by
  intro p e s m args below meth c A H ls locs C hA w hS ho h1 h2 hl
  obtain ⟨Ls, q, hP, hD, hL, hm, hk⟩ := w.get ha
  exact va_alen C.1 C.2.1 C.2.2.2.2.2.2.2.2.1 hP q 2 hk rfl (i32_ofNat n) hd (k p e s m args below meth c A H ls locs C hA w hS ho (ok_c (show okI _ by unfold okI; omega) (ok_t h1)) h2 hl)
-- fields: what the tables say of a field's reference in a class's code, for a receiver of a class
def aFld (own : String) (idx ci k : Nat) : Prop := ∃ (C ref : String) (T : u_T) (N : Nat), vwCl[ci]? = some (C, T, N) ∧ k < N ∧ (∀ w ∈ u_ws C T N, w ∈ lw_ok) ∧ Cond.fieldLink own idx ref (T k).2.1 (T k).2.2.1 ∈ lw_ok ∧ (ref = (T k).1 ∨ Cond.sameField ref (T k).1 (T k).2.1 (T k).2.2.1 ∈ lw_ok)
theorem aFld.same {s : State} {args : Array Value} {ref : String} {T : u_T} {k : Nat} (hts : ∀ w ∈ lw_ok, w.before args s = true) (h : ref = (T k).1 ∨ Cond.sameField ref (T k).1 (T k).2.1 (T k).2.2.1 ∈ lw_ok) : ∀ x, s.fieldFound? (T k).1 (T k).2.1 (T k).2.2.1 = some x → s.fieldFound? ref (T k).2.1 (T k).2.2.1 = some x := by
  intro x hx
  rcases h with rfl | h
  · exact hx
  · exact u_same (hts _ h) x hx
theorem map_get {fs : List aV} {k : Nat} {v : aV} (h : fs[k]? = some v) : (fs.map cv)[k]? = some (cv v) := by rw [List.getElem?_map, h]; rfl
theorem x_get {a ci : Nat} {fs : List aV} {v : aV} {idx : Nat} (f : Nat) (hd : decode X.2.1 pc = .ok (.getfield idx, 3)) (hF : aFld X.1.cls idx ci f) (ha : h a = some (eO ci fs)) (hv : fs[f]? = some v) (k : EX G X d mc ms Q (pc + 3) L (v :: st) h kc ks) : EX G X d mc ms Q pc L (vA a :: st) h kc ks := by
  intro p e s m args below meth c A H ls locs C hA w hS ho h1 h2 hl
  obtain ⟨Ls, q, hP, hD, hL, hm, hk⟩ := w.get ha
  obtain ⟨K, ref, T, N, hc, hkN, hin, hlk, hsm⟩ := hF
  have hts := C.2.2.2.2.2.1
  exact va_get C.1 C.2.1 hts hin C.2.2.2.2.1 C.2.2.2.2.2.2.2.2.1 hP q hk hc f hkN (hts _ hlk) (aFld.same hts hsm) (map_get hv) hd (k p e s m args below meth c A H ls locs C hA w hS ho (ok_c (ho a _ ha v (List.mem_of_getElem? hv)) (ok_t h1)) h2 hl)
/-- a private field of a nest mate -/
def aFldN (own : String) (idx ci k : Nat) : Prop := ∃ (C ref host : String) (T : u_T) (N : Nat), vwCl[ci]? = some (C, T, N) ∧ k < N ∧ (∀ w ∈ u_ws C T N, w ∈ lw_ok) ∧ Cond.fieldLinkNest own idx ref (T k).2.1 (T k).2.2.1 host ∈ aNW ∧ ref = (T k).1
theorem x_getN {a ci : Nat} {fs : List aV} {v : aV} {idx : Nat} (f : Nat) (hd : decode X.2.1 pc = .ok (.getfield idx, 3)) (hF : aFldN X.1.cls idx ci f) (ha : h a = some (eO ci fs)) (hv : fs[f]? = some v) (k : EX G X d mc ms Q (pc + 3) L (v :: st) h kc ks) : EX G X d mc ms Q pc L (vA a :: st) h kc ks := by
  intro p e s m args below meth c A H ls locs C hA w hS ho h1 h2 hl
  obtain ⟨Ls, q, hP, hD, hL, hm, hk⟩ := w.get ha
  obtain ⟨K, ref, host, T, N, hc, hkN, hin, hlk, hsm⟩ := hF
  have hts := C.2.2.2.2.2.1
  have hn := va_Nw.use (A := args) (aNW_tables _ hlk) (C.2.2.2.2.2.2.2.2.2.2 _ hlk)
  exact va_getN C.1 C.2.1 hts hin C.2.2.2.2.1 C.2.2.2.2.2.2.2.2.1 hP q hk hc f hkN hn (aFld.same hts (Or.inl hsm)) (map_get hv) hd (k p e s m args below meth c A H ls locs C hA w hS ho (ok_c (ho a _ ha v (List.mem_of_getElem? hv)) (ok_t h1)) h2 hl)
-- writing
def aPut (own : String) (idx ci k : Nat) (ty : FieldType) (fin : Bool) : Prop := ∃ (C ref : String) (T : u_T) (N : Nat) (ty0 : Nat → FieldType), vwCl[ci]? = some (C, T, N) ∧ k < N ∧ (∀ w ∈ u_ws C T N, w ∈ lw_ok) ∧ Cond.fieldLink own idx ref (T k).2.1 (T k).2.2.1 ∈ lw_ok ∧ ref = (T k).1 ∧
  (∀ k, k < N → parseFieldDescriptor (T k).2.2.1 = some (ty0 k)) ∧ (∀ a, a < N → ∀ b, b < N → a ≠ b → (T a).2.1 ≠ (T b).2.1) ∧ parseFieldDescriptor (T k).2.2.1 = some ty ∧ (T k).2.2.2 = fin ∧ (fin = true → (T k).1 = own)
theorem map_set {fs : List aV} (k : Nat) (v : aV) : (fs.map cv).set k (cv v) = (fs.set k v).map cv := List.map_set.symm
theorem okset {fs : List aV} {k : Nat} {v : aV} (h : ∀ u ∈ fs, okV u) (hv : okV v) : ∀ u ∈ fs.set k v, okV u := by
  intro u hu
  rcases List.mem_or_eq_of_mem_set hu with h1 | rfl
  · exact h u h1
  · exact hv
theorem x_put {a ci : Nat} {fs : List aV} {v : aV} {idx : Nat} {ty : FieldType} (f : Nat) (hd : decode X.2.1 pc = .ok (.putfield idx, 3)) (hF : aPut X.1.cls idx ci f ty false) (ha : h a = some (eO ci fs)) (hn : narrow ty (cv v) = cv v) (hfit : fits ty (cv v) = true) (hlen : f < fs.length) (k : EX G X d mc ms Q (pc + 3) L st (hset h a (eO ci (fs.set f v))) kc ks) : EX G X d mc ms Q pc L (v :: vA a :: st) h kc ks := by
  intro p e s m args below meth c A H ls locs C hA w hS ho h1 h2 hl
  obtain ⟨Ls, q, hP, hD, hL, hm, hk⟩ := w.get ha
  obtain ⟨K, ref, T, N, ty0, hc, hkN, hin, hlk, hsm, hty, hnm, hpd, hfin, -⟩ := hF
  have hts := C.2.2.2.2.2.1
  refine va_put (A := A) C.1 C.2.1 hts hin ty0 hty hnm C.2.2.2.2.1 C.2.2.2.2.2.2.2.2.1 hP hD hS q hk hc f hkN (hts _ hlk) (aFld.same hts (Or.inl hsm)) hfin hpd hn hfit (by rw [List.length_map]; exact hlen) hd fun H1 locs1 hP1 hD1 hS1 => ?_
  rw [map_set] at hP1 hD1
  exact k p e s m args below meth c A H1 ls locs1 C hA (aWd.upd ha hD hL hm hk (e := eO ci (fs.set f v)) hP1 hD1) hS1 (ho.set (okset (ho a _ ha) (ok_h h1))) (ok_t (ok_t h1)) h2 hl
theorem x_putF {a ci : Nat} {fs : List aV} {v : aV} {idx : Nat} {ty : FieldType} (f : Nat) (hd : decode X.2.1 pc = .ok (.putfield idx, 3)) (hinit : X.1.name = "<init>") (hF : aPut X.1.cls idx ci f ty true) (ha : h a = some (eO ci fs)) (hn : narrow ty (cv v) = cv v) (hfit : fits ty (cv v) = true) (hlen : f < fs.length) (k : EX G X d mc ms Q (pc + 3) L st (hset h a (eO ci (fs.set f v))) kc ks) : EX G X d mc ms Q pc L (v :: vA a :: st) h kc ks := by
  intro p e s m args below meth c A H ls locs C hA w hS ho h1 h2 hl
  obtain ⟨Ls, q, hP, hD, hL, hm, hk⟩ := w.get ha
  obtain ⟨K, ref, T, N, ty0, hc, hkN, hin, hlk, hsm, hty, hnm, hpd, hfin, hdecl⟩ := hF
  have hts := C.2.2.2.2.2.1
  refine va_putF (A := A) C.1 C.2.1 hts hin ty0 hty hnm C.2.2.2.2.1 C.2.2.2.2.2.2.2.2.1 hP hD hS q hk hc f hkN (hts _ hlk) (aFld.same hts (Or.inl hsm)) hfin (C.2.2.2.2.2.2.2.1 hinit) (hdecl rfl) hpd hn hfit (by rw [List.length_map]; exact hlen) hd fun H1 locs1 hP1 hD1 hS1 => ?_
  rw [map_set] at hP1 hD1
  exact k p e s m args below meth c A H1 ls locs1 C hA (aWd.upd ha hD hL hm hk (e := eO ci (fs.set f v)) hP1 hD1) hS1 (ho.set (okset (ho a _ ha) (ok_h h1))) (ok_t (ok_t h1)) h2 hl
/-- a private field of a nest mate -/
def aPutN (own : String) (idx ci k : Nat) (ty : FieldType) : Prop := ∃ (C ref host : String) (T : u_T) (N : Nat) (ty0 : Nat → FieldType), vwCl[ci]? = some (C, T, N) ∧ k < N ∧ (∀ w ∈ u_ws C T N, w ∈ lw_ok) ∧ Cond.fieldLinkNest own idx ref (T k).2.1 (T k).2.2.1 host ∈ aNW ∧ ref = (T k).1 ∧
  (∀ k, k < N → parseFieldDescriptor (T k).2.2.1 = some (ty0 k)) ∧ (∀ a, a < N → ∀ b, b < N → a ≠ b → (T a).2.1 ≠ (T b).2.1) ∧ parseFieldDescriptor (T k).2.2.1 = some ty ∧ (T k).2.2.2 = false
theorem x_putN {a ci : Nat} {fs : List aV} {v : aV} {idx : Nat} {ty : FieldType} (f : Nat) (hd : decode X.2.1 pc = .ok (.putfield idx, 3)) (hF : aPutN X.1.cls idx ci f ty) (ha : h a = some (eO ci fs)) (hn : narrow ty (cv v) = cv v) (hfit : fits ty (cv v) = true) (hlen : f < fs.length) (k : EX G X d mc ms Q (pc + 3) L st (hset h a (eO ci (fs.set f v))) kc ks) : EX G X d mc ms Q pc L (v :: vA a :: st) h kc ks := by
  intro p e s m args below meth c A H ls locs C hA w hS ho h1 h2 hl
  obtain ⟨Ls, q, hP, hD, hL, hm, hk⟩ := w.get ha
  obtain ⟨K, ref, host, T, N, ty0, hc, hkN, hin, hlk, hsm, hty, hnm, hpd, hfin⟩ := hF
  have hts := C.2.2.2.2.2.1
  have hn2 := va_Nw.use (A := args) (aNW_tables _ hlk) (C.2.2.2.2.2.2.2.2.2.2 _ hlk)
  refine va_putN (A := A) C.1 C.2.1 hts hin ty0 hty hnm C.2.2.2.2.1 C.2.2.2.2.2.2.2.2.1 hP hD hS q hk hc f hkN hn2 (aFld.same hts (Or.inl hsm)) hfin hpd hn hfit (by rw [List.length_map]; exact hlen) hd fun H1 locs1 hP1 hD1 hS1 => ?_
  rw [map_set] at hP1 hD1
  exact k p e s m args below meth c A H1 ls locs1 C hA (aWd.upd ha hD hL hm hk (e := eO ci (fs.set f v)) hP1 hD1) hS1 (ho.set (okset (ho a _ ha) (ok_h h1))) (ok_t (ok_t h1)) h2 hl
-- new cells
def aNew (own : String) (idx ci : Nat) (fs : List aV) : Prop := ∃ (C : String) (T : u_T) (N : Nat) (ty : Nat → FieldType), vwCl[ci]? = some (C, T, N) ∧ N = fs.length ∧ (∀ w ∈ u_ws C T N, w ∈ lw_ok) ∧ (∀ k, k < N → parseFieldDescriptor (T k).2.2.1 = some (ty k)) ∧ Cond.classLink own idx C ∈ lw_ok ∧ Cond.instantiable C N ∈ lw_ok ∧ Cond.initialized C ∈ lw_ok ∧ (∀ j, j < N → defaultValue (ty j) = vp_V (fs.map cv) j) ∧ ∀ v ∈ fs, okV v
theorem aWd.kept {G : aG} {A : Nat → Prop} {h : aH} {H H1 : Heap} (w : aWd G A h H) (hq : ∀ q : Nat, q < H.size → H1[q]? = H[q]?) {e : aE} {ho : h H.size = none} (he : va_at (gD G) vwCl (H.size, ce G e) H1) (hA : A H.size) : aWd G A (hset h H.size e) H1 := by
  obtain ⟨Ls, hP, hD, hL⟩ := w
  refine aWd.push (Ls := Ls) hL ho ?_ ?_
  · refine va_P.app (hP.kept fun k q hk => hq _ (hP k q hk).lt) ?_
    intro k q hk
    have hz : k < 1 := (List.getElem?_eq_some_iff.mp hk).1
    rw [show k = 0 by omega] at hk
    cases hk
    exact he
  · exact hD.push hP rfl hA
theorem aWd.fresh {G : aG} {A : Nat → Prop} {h : aH} {H : Heap} (w : aWd G A h H) : h H.size = none := by
  cases hh : h H.size with
  | none => rfl
  | some e =>
    have := w.lt (a := H.size) (by rw [hh]; rfl)
    omega
theorem x_new {ci : Nat} {fs : List aV} {idx : Nat} (hd : decode X.2.1 pc = .ok (.new idx, 3)) (hF : aNew X.1.cls idx ci fs) (hc : kc + 1 ≤ mc) (hs : ks + fs.length ≤ ms) (k : ∀ q : Nat, h q = none → (∀ b : Nat, (h b).isSome = true → b < q) → EX G X d mc ms Q (pc + 3) L (vA q :: st) (hset h q (eO ci fs)) (kc + 1) (ks + fs.length)) : EX G X d mc ms Q pc L st h kc ks := by
  intro p e s m args below meth c A H ls locs C hA w hS ho h1 h2 hl
  obtain ⟨K, T, N, ty, hcl, hN, hin, hty, hlk, hins, hini, hdf, hok⟩ := hF
  have hts := C.2.2.2.2.2.1
  have hKn := C.2.2.2.2.2.2.2.2.1.1 ci _ hcl
  refine W.newcK C.1 C.2.1 C.2.2.2.2.1 (hts _ hlk) (hts _ hins) (hts _ hini) rfl hd hc (by rw [hN]; exact hs) hKn.2.1 rfl fun H1 kC hkC e1 z1 o1 => ?_
  have hs1 : va_S A s.heap H1 locs := ⟨Nat.le_trans hS.1 (by omega), fun x q1 q2 => (o1 x (Nat.lt_of_lt_of_le q1 hS.1)).trans (hS.2.1 x q1 q2), hS.2.2⟩
  have hw1 : aWd G A (hset h H.size (eO ci fs)) H1 := w.kept (ho := w.fresh) o1 ⟨_, hcl, (u_born ty hts hin hKn hkC e1 hty).to hdf⟩ (hA _ hS.1)
  rw [hN]
  exact k H.size w.fresh (fun b hb => w.lt hb) p e s m args below meth c A H1 ls locs C hA hw1 hs1 (ho.set hok) (ok_c trivial h1) h2 hl
theorem x_newJ {n : Int} (hd : decode X.2.1 pc = .ok (.newarray .long, 2)) (hn0 : 0 ≤ n) (hn : n ≤ 100000) (hc : kc + 1 ≤ mc) (hs : ks + n.toNat ≤ ms) (k : ∀ q : Nat, h q = none → (∀ b : Nat, (h b).isSome = true → b < q) → EX G X d mc ms Q (pc + 2) L (vA q :: st) (hset h q (eJ n.toNat (fun _ => 0))) (kc + 1) (ks + n.toNat)) : EX G X d mc ms Q pc L (vI n :: st) h kc ks := by
  intro p e s m args below meth c A H ls locs C hA w hS ho h1 h2 hl
  have hts := C.2.2.2.2.2.1
  have oi := ok_I h1
  have ha : Cond.arrayClass .long ∈ lw_ok := by decide +kernel
  refine va_newaK C.1 C.2.1 (atype := .long) (hts _ ha) rfl hd rfl ?_ (i32_nat oi hn0) ?_ hc hs rfl fun H1 cA e1 z1 o1 hAr hNm => ?_
  · intro q
    have := (i32_lt oi okI_0).mp q
    omega
  · show n.toNat * 8 ≤ 536870912
    omega
  have hcA : cA = G.2.2.2.2.1 := by
    have := (C.2.2.2.2.2.2.2.2.1.2 1 _ rfl).2
    exact Option.some.inj (hNm.symm.trans this)
  subst hcA
  have hs1 : va_S A s.heap H1 locs := ⟨Nat.le_trans hS.1 (by omega), fun x q1 q2 => (o1 x (Nat.lt_of_lt_of_le q1 hS.1)).trans (hS.2.1 x q1 q2), hS.2.2⟩
  have hw1 : aWd G A (hset h H.size (eJ n.toNat (fun _ => 0))) H1 := w.kept (ho := w.fresh) o1 e1 (hA _ hS.1)
  exact k H.size w.fresh (fun b hb => w.lt hb) p e s m args below meth c A H1 ls locs C hA hw1 hs1 (ho.set (fun _ => okJ_0)) (ok_c trivial (ok_t h1)) h2 hl
theorem x_newI {n : Int} (hd : decode X.2.1 pc = .ok (.newarray .int, 2)) (hn0 : 0 ≤ n) (hn : n ≤ 100000) (hc : kc + 1 ≤ mc) (hs : ks + n.toNat ≤ ms) (k : ∀ q : Nat, h q = none → (∀ b : Nat, (h b).isSome = true → b < q) → EX G X d mc ms Q (pc + 2) L (vA q :: st) (hset h q (eI n.toNat (fun _ => 0))) (kc + 1) (ks + n.toNat)) : EX G X d mc ms Q pc L (vI n :: st) h kc ks := by
  intro p e s m args below meth c A H ls locs C hA w hS ho h1 h2 hl
  have hts := C.2.2.2.2.2.1
  have oi := ok_I h1
  have ha : Cond.arrayClass .int ∈ lw_ok := by decide +kernel
  refine va_newaK C.1 C.2.1 (atype := .int) (hts _ ha) rfl hd rfl ?_ (i32_nat oi hn0) ?_ hc hs rfl fun H1 cA e1 z1 o1 hAr hNm => ?_
  · intro q
    have := (i32_lt oi okI_0).mp q
    omega
  · show n.toNat * 4 ≤ 536870912
    omega
  have hcA : cA = G.2.2.2.1 := by
    have := (C.2.2.2.2.2.2.2.2.1.2 0 _ rfl).2
    exact Option.some.inj (hNm.symm.trans this)
  subst hcA
  have hs1 : va_S A s.heap H1 locs := ⟨Nat.le_trans hS.1 (by omega), fun x q1 q2 => (o1 x (Nat.lt_of_lt_of_le q1 hS.1)).trans (hS.2.1 x q1 q2), hS.2.2⟩
  have hw1 : aWd G A (hset h H.size (eI n.toNat (fun _ => 0))) H1 := w.kept (ho := w.fresh) o1 e1 (hA _ hS.1)
  exact k H.size w.fresh (fun b hb => w.lt hb) p e s m args below meth c A H1 ls locs C hA hw1 hs1 (ho.set (fun _ => okI_0)) (ok_c trivial (ok_t h1)) h2 hl
theorem x_newR {n : Int} {idx : Nat} (hd : decode X.2.1 pc = .ok (.anewarray idx, 3)) (hlk : Cond.classLink X.1.cls idx RX1 ∈ lw_ok) (hn0 : 0 ≤ n) (hn : n ≤ 100000) (hc : kc + 1 ≤ mc) (hs : ks + n.toNat ≤ ms) (k : ∀ q : Nat, h q = none → (∀ b : Nat, (h b).isSome = true → b < q) → EX G X d mc ms Q (pc + 3) L (vA q :: st) (hset h q (eR n.toNat (fun _ => none))) (kc + 1) (ks + n.toNat)) : EX G X d mc ms Q pc L (vI n :: st) h kc ks := by
  intro p e s m args below meth c A H ls locs C hA w hS ho h1 h2 hl
  have hts := C.2.2.2.2.2.1
  have oi := ok_I h1
  have en := i32_nat oi hn0
  refine W.anew C.1 C.2.1 C.2.2.2.2.1 (hts _ hlk) (va_AO.use C.2.2.2.2.2.2.2.2.2.1) rfl hd rfl ?_ (by rw [en]; omega) hc (by rw [en]; exact hs) fun cA kA comp f1 f2 f3 f4 => ?_
  · intro q
    have := (i32_lt oi okI_0).mp q
    omega
  obtain ⟨-, kA', comp', g1, g2, g3, g4⟩ := C.2.2.2.2.2.2.2.2.1.2 2 _ rfl
  have hcA : cA = G.2.2.2.2.2 := Option.some.inj (f1.symm.trans g4)
  subst hcA
  rw [en]
  generalize hH1 : H.push ({ cls := G.2.2.2.2.2, slots := Array.replicate n.toNat .null, vm := .none } : Cell) = H1
  have z1 : H1.size = H.size + 1 := by rw [← hH1, Array.size_push]
  have e1 : H1[H.size]? = some (arrV G.2.2.2.2.2 n.toNat (fun _ => .null)) := by rw [← hH1, Array.getElem?_push_size, ← arrV_new]
  have o1 : ∀ q : Nat, q < H.size → H1[q]? = H[q]? := fun q hq => by rw [← hH1, Array.getElem?_push, if_neg (Nat.ne_of_lt hq)]
  have hs1 : va_S A s.heap H1 locs := ⟨Nat.le_trans hS.1 (by omega), fun x q1 q2 => (o1 x (Nat.lt_of_lt_of_le q1 hS.1)).trans (hS.2.1 x q1 q2), hS.2.2⟩
  have hw1 : aWd G A (hset h H.size (eR n.toNat (fun _ => none))) H1 := w.kept (ho := w.fresh) o1 e1 (hA _ hS.1)
  exact k H.size w.fresh (fun b hb => w.lt hb) p e s m args below meth c A H1 ls locs C hA hw1 hs1 (ho.set trivial) (ok_c trivial (ok_t h1)) h2 hl
end XH
end
section
/-! ===== calls: EX at a call, out of the callee's MC ===== -/
section XC
variable {G : aG} {X Y : aM} {d d' mc ms mc' ms' : Nat} {Q Q' : Option aV → aH → Prop} {pc : Nat} {L L' : List (Nat × aV)} {st : List aV} {h : aH} {kc ks : Nat}
theorem x_after {p : Program} {e : Env} {s : State} {m : MethodId} {args a : Array Value} {below : List Frame} {meth : Method} {c : Code} {A : Nat → Prop} {H : Heap} {ls : Array Slot} {locs : List Loc} {st0 : List Value}
    (C : aCtx G X p s m args meth c) (hA : ∀ q : Nat, s.heap.size ≤ q → A q) (w : aWd G A h H) (hS : va_S A s.heap H locs) (h1 : ∀ v ∈ st, okV v) (h2 : ∀ q ∈ L, okV q.2) (hl : lv_has ls X.2.2.1 (L.map cvq))
    (hr : va_Run p G.1 e (aRm d mc ms) s m args below meth c H locs kc ks mc' ms' (F0 m pc ls st0) (st.map cv) (aQ G (aA h H.size) Q' a) (aA h H.size))
    (k : ∀ (r : Option aV) (h' : aH), Q' r h' → EX G X d mc ms Q (pc + 3) L (r.toList ++ st) h' (kc + mc') (ks + ms')) : W p G.1 e (aRm d mc ms) s m args below meth c H locs kc ks (MQ below (aQ G A Q) args s mc ms A) (F0 m pc ls st0) := by
  have hAA : ∀ q : Nat, aA h H.size q → A q := by
    intro q hq
    rcases hq with hq | hq
    · exact w.in hq
    · exact hA q (Nat.le_trans hS.1 hq)
  intro T hT X₀
  obtain ⟨v, st₀, t, T', Lc, h0, X', hL, e1, e2, ⟨⟨r, h', hq, hv, w', ho', hr'⟩, hz, hk⟩, stp⟩ := hr T hT X₀
  have hv' : v = r.map cv := by injection hv
  subst hv'
  rw [h0] at hz hk
  have w2 : aWd G A h' T'.heap := by rw [e1]; exact w'.weaken fun a _ q => hAA a q
  have hS2 : va_S A s.heap T'.heap (locs ++ Lc) := ⟨Nat.le_trans hS.1 (by rw [e1]; exact hz), fun q q1 q2 => by rw [e1, hk q (Nat.lt_of_lt_of_le q1 hS.1) (fun z => q2 (hAA q z))]; exact hS.2.1 q q1 q2, fun q hq => by
      rcases List.mem_append.mp hq with z | z
      · exact hS.2.2 q z
      · exact hAA _ (hL q z)⟩
  have ok2 : ∀ v ∈ r.toList ++ st, okV v := by
    intro v hv
    rcases List.mem_append.mp hv with z | z
    · exact hr' v (by simpa using z)
    · exact h1 v z
  obtain ⟨t2, a1, b1⟩ := k r h' hq p e s m args below meth c A T'.heap ls (locs ++ Lc) C hA w2 hS2 ho' ok2 h2 hl T' rfl X'
  refine ⟨t2, stp t2 ?_, b1⟩
  have : (r.map cv).toList ++ st.map cv = (r.toList ++ st).map cv := by cases r <;> simp
  rw [this]
  exact a1
def aCal (Y : aM) : Prop := Cond.code Y.1 Y.2.1 Y.2.2.1 Y.2.2.2 ∈ lw_ok ∧ Cond.initialized Y.1.cls ∈ lw_ok ∧ (Y.1.cls ≠ "java/lang/invoke/MethodHandle" ∧ Y.1.cls ≠ "java/lang/invoke/VarHandle") ∧ Y.2.2.1 ≤ 19
theorem aCal.good {Y : aM} (h : aCal Y) : GoodIn lw_ok (.code Y.1 Y.2.1 Y.2.2.1 Y.2.2.2 :: lw_ok) := by
  intro w hw
  have hm : w ∈ lw_ok := by
    rcases List.mem_cons.mp hw with rfl | q
    · exact h.1
    · exact q
  exact ⟨hm, good_of_word (lw_ok_good w hm)⟩
theorem room_le {d d' n : Nat} (hd : d' + 1 ≤ d) (hn : n ≤ 19) : 8 + (n + 11) + 38 * d' ≤ 38 * d := by omega
theorem aPc_blind (as : List aV) (sz : Nat) : FrameBlind (va_Pc (as.map cv) (fun U => U.heap.size = sz ∧ aWd G (fun _ => True) h U.heap ∧ aKx G U)) :=
  fun a U g mk q => ⟨q.1, q.2.1, q.2.2.1, q.2.2.2.blind⟩
theorem aPar {n : Nat} {ds : String} (h : (parseMethodDescriptor ds).map (fun d => d.parameters.length) = some n) : ∀ sig, parseMethodDescriptor ds = some sig → n = sig.parameters.length := by
  intro sig q
  rw [q] at h
  exact (Option.some.inj h).symm
theorem st_rev (as : List aV) (st : List aV) : (as.reverse ++ st).map cv = (as.map cv).reverse ++ st.map cv := by simp
theorem ok_app {as st : List aV} (h : ∀ v ∈ as.reverse ++ st, okV v) : (∀ v ∈ as, okV v) ∧ ∀ v ∈ st, okV v :=
  ⟨fun v hv => h v (List.mem_append_left _ (List.mem_reverse.mpr hv)), fun v hv => h v (List.mem_append_right _ hv)⟩
theorem aRecv {p : Program} {s : State} {m : MethodId} {args : Array Value} {meth : Method} {c : Code} {A : Nat → Prop} {H : Heap} (C : aCtx G X p s m args meth c) (w : aWd G A h H) {b ci : Nat} {fs : List aV} (hb : h b = some (eO ci fs)) {K : String} {T : u_T} {N : Nat} (hc : vwCl[ci]? = some (K, T, N)) : ∃ cell : Cell, H[b]? = some cell ∧ cell.vm.isStatics = false ∧ s.vm.findClass K = some cell.cls := by
  obtain ⟨Ls, q, hP, hD, hL, hm, hk⟩ := w.get hb
  exact va_recv C.2.2.2.2.2.2.2.2.1 hP hc hk
theorem catsum (st : List aV) (hcat : ((st.map cv).map fun v => v.category).sum ≤ 8) : (((st.map cv)).map fun v => v.category).sum ≤ 8 := hcat
-- an ordinary virtual call (the method named is the one that runs)
def aLkV (own : String) (idx ci : Nat) (Y : aM) (n : Nat) : Prop := aCal Y ∧ ∃ (K : String) (T : u_T) (N : Nat), vwCl[ci]? = some (K, T, N) ∧ Cond.methodLink own idx Y.1 ∈ lw_ok ∧ Cond.instanceMethod Y.1 ∈ lw_ok ∧ Cond.selects K Y.1 Y.1 ∈ lw_ok ∧ (parseMethodDescriptor Y.1.desc).map (fun d => d.parameters.length) = some n
theorem x_callV {b ci n idx : Nat} {fs : List aV} (as : List aV) {stk : List aV} (hd : decode X.2.1 pc = .ok (.invokevirtual idx, 3)) (hk : aLkV X.1.cls idx ci Y n) (hstk : stk = as.reverse ++ vA b :: st) (hn : as.length = n) (hb : h b = some (eO ci fs)) (hdd : d' + 1 ≤ d) (hcat : ((st.map cv).map fun v => v.category).sum ≤ 8) (hc : kc + mc' ≤ mc) (hs : ks + ms' ≤ ms)
    (hM : MC G Y d' mc' ms' (vA b :: as) h Q') (k : ∀ (r : Option aV) (h' : aH), Q' r h' → EX G X d mc ms Q (pc + 3) L (r.toList ++ st) h' (kc + mc') (ks + ms')) : EX G X d mc ms Q pc L stk h kc ks := by
  subst hstk
  intro p e s m args below meth c A H ls locs C hA w hS ho h1 h2 hl
  obtain ⟨hY, K, T, N, hcl, hlk, hin, hsel, hpar⟩ := hk
  have hts := C.2.2.2.2.2.1
  obtain ⟨o1, o2⟩ := ok_app h1
  have hM1 := hM (ok_c trivial o1) ho H.size
  have hrcv := aRecv C w hb hcl
  have hcall : CallW (aRm d mc ms) s args X.1.cls K idx Y.1 Y.2.1 Y.2.2.1 Y.2.2.2 (.code Y.1 Y.2.1 Y.2.2.1 Y.2.2.2 :: lw_ok) (aRm d' mc' ms') mc' ms' n :=
    ⟨⟨rfl, rfl, hdd, room_le hdd hY.2.2.2, pay_in hts hY.good, List.mem_cons_self, hts _ hY.1, hts _ hY.2.1, hY.2.2.1, aPar hpar, hts _ hlk⟩, hts _ hin, hts _ hsel⟩
  rw [st_rev, List.map_cons]
  refine x_after (st := st) C hA w hS (ok_t o2) h2 hl (va_runV (As := as.map cv) (rest := st.map cv) ⟨C.1, C.2.1, C.2.2.1, C.2.2.2.2.1, hts⟩ hM1 hcall ⟨aPc_blind _ _, hrcv, fun U hU hW => ⟨rfl, by rw [hU], by rw [hU]; exact w.weaken fun _ _ _ => trivial, C.2.2.2.2.2.2.2.2.warm hW⟩⟩ rfl (by rw [List.length_map]; exact hn) hl.1 rfl (lv_room hcat) hd ⟨hc, hs⟩) k
-- a virtual call of a method that is inherited or overridden
def aLkU (own : String) (idx ci : Nat) (x : MethodName) (Y : aM) (n : Nat) : Prop := aCal Y ∧ ∃ (K owner : String) (T : u_T) (N : Nat) (b0 : ByteArray) (m0 : Nat) (r0 : Option FieldType), vwCl[ci]? = some (K, T, N) ∧ Cond.methodLink own idx x ∈ lw_ok ∧ Cond.sameMethod x.cls owner x.name x.desc ∈ lw_ok ∧ Cond.instanceMethod ⟨owner, x.name, x.desc⟩ ∈ lw_ok ∧ Cond.code ⟨owner, x.name, x.desc⟩ b0 m0 r0 ∈ lw_ok ∧ Cond.selects K x Y.1 ∈ lw_ok ∧ Cond.instanceMethod Y.1 ∈ lw_ok ∧ (owner ≠ "java/lang/invoke/MethodHandle" ∧ owner ≠ "java/lang/invoke/VarHandle") ∧ (parseMethodDescriptor x.desc).map (fun d => d.parameters.length) = some n
theorem x_callU {b ci n idx : Nat} {x : MethodName} {fs : List aV} (as : List aV) {stk : List aV} (hd : decode X.2.1 pc = .ok (.invokevirtual idx, 3)) (hk : aLkU X.1.cls idx ci x Y n) (hstk : stk = as.reverse ++ vA b :: st) (hn : as.length = n) (hb : h b = some (eO ci fs)) (hdd : d' + 1 ≤ d) (hcat : ((st.map cv).map fun v => v.category).sum ≤ 8) (hc : kc + mc' ≤ mc) (hs : ks + ms' ≤ ms)
    (hM : MC G Y d' mc' ms' (vA b :: as) h Q') (k : ∀ (r : Option aV) (h' : aH), Q' r h' → EX G X d mc ms Q (pc + 3) L (r.toList ++ st) h' (kc + mc') (ks + ms')) : EX G X d mc ms Q pc L stk h kc ks := by
  subst hstk
  intro p e s m args below meth c A H ls locs C hA w hS ho h1 h2 hl
  obtain ⟨hY, K, owner, T, N, b0, m0, r0, hcl, hlk, hsm, hdc, hcd, hsel, hin, how, hpar⟩ := hk
  have hts := C.2.2.2.2.2.1
  obtain ⟨o1, o2⟩ := ok_app h1
  have hM1 := hM (ok_c trivial o1) ho H.size
  have hrcv := aRecv C w hb hcl
  have hcall : va_CU (aRm d mc ms) s args X.1.cls K owner idx x Y.1 Y.2.1 Y.2.2.1 Y.2.2.2 (.code Y.1 Y.2.1 Y.2.2.1 Y.2.2.2 :: lw_ok) (aRm d' mc' ms') mc' ms' n :=
    ⟨⟨rfl, rfl, hdd, room_le hdd hY.2.2.2, pay_in hts hY.good, List.mem_cons_self⟩, hts _ hY.1, hts _ hY.2.1, how, aPar hpar, hts _ hlk, hts _ hsm, va_Decl.of (hts _ hdc) (hts _ hcd), hts _ hsel, hts _ hin⟩
  rw [st_rev, List.map_cons]
  refine x_after (st := st) C hA w hS (ok_t o2) h2 hl (va_runU (As := as.map cv) (rest := st.map cv) ⟨C.1, C.2.1, C.2.2.1, C.2.2.2.2.1, hts⟩ hM1 hcall ⟨aPc_blind _ _, hrcv, fun U hU hW => ⟨rfl, by rw [hU], by rw [hU]; exact w.weaken fun _ _ _ => trivial, C.2.2.2.2.2.2.2.2.warm hW⟩⟩ rfl (by rw [List.length_map]; exact hn) hl.1 rfl (lv_room hcat) hd ⟨hc, hs⟩) k
-- a static call
def aLkS (own : String) (idx : Nat) (Y : aM) (n : Nat) : Prop := aCal Y ∧ Cond.methodLink own idx Y.1 ∈ lw_ok ∧ Cond.static Y.1 ∈ lw_ok ∧ (parseMethodDescriptor Y.1.desc).map (fun d => d.parameters.length) = some n
theorem x_callS {n idx : Nat} (as : List aV) {stk : List aV} (hd : decode X.2.1 pc = .ok (.invokestatic idx, 3)) (hk : aLkS X.1.cls idx Y n) (hstk : stk = as.reverse ++ st) (hn : as.length = n) (hdd : d' + 1 ≤ d) (hcat : ((st.map cv).map fun v => v.category).sum ≤ 8) (hc : kc + mc' ≤ mc) (hs : ks + ms' ≤ ms)
    (hM : MC G Y d' mc' ms' as h Q') (k : ∀ (r : Option aV) (h' : aH), Q' r h' → EX G X d mc ms Q (pc + 3) L (r.toList ++ st) h' (kc + mc') (ks + ms')) : EX G X d mc ms Q pc L stk h kc ks := by
  subst hstk
  intro p e s m args below meth c A H ls locs C hA w hS ho h1 h2 hl
  obtain ⟨hY, hlk, hst, hpar⟩ := hk
  have hts := C.2.2.2.2.2.1
  obtain ⟨o1, o2⟩ := ok_app h1
  have hM1 := hM o1 ho H.size
  have hcall : CallB (aRm d mc ms) s args X.1.cls idx Y.1 Y.2.1 Y.2.2.1 Y.2.2.2 (.code Y.1 Y.2.1 Y.2.2.1 Y.2.2.2 :: lw_ok) (aRm d' mc' ms') mc' ms' n :=
    ⟨rfl, rfl, hdd, room_le hdd hY.2.2.2, pay_in hts hY.good, List.mem_cons_self, hts _ hY.1, hts _ hY.2.1, hY.2.2.1, aPar hpar, hts _ hlk⟩
  rw [st_rev]
  refine x_after (st := st) C hA w hS o2 h2 hl (va_runS (As := as.map cv) (rest := st.map cv) ⟨C.1, C.2.1, C.2.2.1, C.2.2.2.2.1, hts⟩ hM1 ⟨hcall, hts _ hst⟩ ⟨aPc_blind _ _, fun U hU hW => ⟨rfl, by rw [hU], by rw [hU]; exact w.weaken fun _ _ _ => trivial, C.2.2.2.2.2.2.2.2.warm hW⟩⟩ rfl (by rw [List.length_map]; exact hn) hl.1 rfl (lv_room hcat) hd ⟨hc, hs⟩) k
-- a constructor
def aLkI (own : String) (idx : Nat) (Y : aM) (n : Nat) : Prop := aCal Y ∧ Y.2.2.2 = none ∧ Cond.methodLink own idx Y.1 ∈ lw_ok ∧ Cond.instanceMethod Y.1 ∈ lw_ok ∧ Y.1.name = "<init>" ∧ (parseMethodDescriptor Y.1.desc).map (fun d => d.parameters.length) = some n
theorem x_callI {b n idx : Nat} (as : List aV) {stk : List aV} (hd : decode X.2.1 pc = .ok (.invokespecial idx, 3)) (hk : aLkI X.1.cls idx Y n) (hstk : stk = as.reverse ++ vA b :: st) (hn : as.length = n) (hdd : d' + 1 ≤ d) (hcat : ((st.map cv).map fun v => v.category).sum ≤ 8) (hc : kc + mc' ≤ mc) (hs : ks + ms' ≤ ms)
    (hM : MC G Y d' mc' ms' (vA b :: as) h Q') (k : ∀ (r : Option aV) (h' : aH), Q' r h' → EX G X d mc ms Q (pc + 3) L (r.toList ++ st) h' (kc + mc') (ks + ms')) : EX G X d mc ms Q pc L stk h kc ks := by
  subst hstk
  intro p e s m args below meth c A H ls locs C hA w hS ho h1 h2 hl
  obtain ⟨hY, hret, hlk, hin, hnm, hpar⟩ := hk
  obtain ⟨y, code, maxL, ret⟩ := Y
  simp only at hret hnm hpar hlk hin
  subst hret
  have hts := C.2.2.2.2.2.1
  obtain ⟨o1, o2⟩ := ok_app h1
  have hM1 := hM (ok_c trivial o1) ho H.size
  have hcall : CallB (aRm d mc ms) s args X.1.cls idx y code maxL none (.code y code maxL none :: lw_ok) (aRm d' mc' ms') mc' ms' n :=
    ⟨rfl, rfl, hdd, room_le hdd hY.2.2.2, pay_in hts hY.good, List.mem_cons_self, hts _ hY.1, hts _ hY.2.1, hY.2.2.1, aPar hpar, hts _ hlk⟩
  rw [st_rev, List.map_cons]
  refine x_after (st := st) C hA w hS (ok_t o2) h2 hl (va_runI (b := b) (As := as.map cv) (rest := st.map cv) ⟨C.1, C.2.1, C.2.2.1, C.2.2.2.2.1, hts⟩ hM1 ⟨hcall, hnm, hts _ hin⟩ ⟨aPc_blind _ _, fun U hU hW => ⟨rfl, by rw [hU], by rw [hU]; exact w.weaken fun _ _ _ => trivial, C.2.2.2.2.2.2.2.2.warm hW⟩⟩ rfl (by rw [List.length_map]; exact hn) hl.1 rfl (lv_room hcat) hd ⟨hc, hs⟩) k
-- a private constructor of a nest mate
def aLkIN (own : String) (idx : Nat) (Y : aM) (n : Nat) : Prop := aCal Y ∧ Y.2.2.2 = none ∧ (∃ host : String, Cond.methodLinkNest own idx Y.1 host ∈ aNW) ∧ Cond.instanceMethod Y.1 ∈ lw_ok ∧ Y.1.name = "<init>" ∧ (parseMethodDescriptor Y.1.desc).map (fun d => d.parameters.length) = some n
theorem x_callIN {b n idx : Nat} (as : List aV) {stk : List aV} (hd : decode X.2.1 pc = .ok (.invokespecial idx, 3)) (hk : aLkIN X.1.cls idx Y n) (hstk : stk = as.reverse ++ vA b :: st) (hn : as.length = n) (hdd : d' + 1 ≤ d) (hcat : ((st.map cv).map fun v => v.category).sum ≤ 8) (hc : kc + mc' ≤ mc) (hs : ks + ms' ≤ ms)
    (hM : MC G Y d' mc' ms' (vA b :: as) h Q') (k : ∀ (r : Option aV) (h' : aH), Q' r h' → EX G X d mc ms Q (pc + 3) L (r.toList ++ st) h' (kc + mc') (ks + ms')) : EX G X d mc ms Q pc L stk h kc ks := by
  subst hstk
  intro p e s m args below meth c A H ls locs C hA w hS ho h1 h2 hl
  obtain ⟨hY, hret, ⟨host, hlk⟩, hin, hnm, hpar⟩ := hk
  obtain ⟨y, code, maxL, ret⟩ := Y
  simp only at hret hnm hpar hlk hin
  subst hret
  have hts := C.2.2.2.2.2.1
  obtain ⟨o1, o2⟩ := ok_app h1
  have hM1 := hM (ok_c trivial o1) ho H.size
  have hlk2 := va_Nw.use (A := args) (aNW_tables _ hlk) (C.2.2.2.2.2.2.2.2.2.2 _ hlk)
  have hcall : va_CN (aRm d mc ms) s args X.1.cls idx y host code maxL none (.code y code maxL none :: lw_ok) (aRm d' mc' ms') mc' ms' n :=
    ⟨⟨rfl, rfl, hdd, room_le hdd hY.2.2.2, pay_in hts hY.good, List.mem_cons_self⟩, hts _ hY.1, hts _ hY.2.1, hY.2.2.1, aPar hpar, hlk2⟩
  rw [st_rev, List.map_cons]
  refine x_after (st := st) C hA w hS (ok_t o2) h2 hl (va_runIN (b := b) (As := as.map cv) (rest := st.map cv) ⟨C.1, C.2.1, C.2.2.1, C.2.2.2.2.1, hts⟩ hM1 ⟨hcall, hnm, hts _ hin⟩ ⟨aPc_blind _ _, fun U hU hW => ⟨rfl, by rw [hU], by rw [hU]; exact w.weaken fun _ _ _ => trivial, C.2.2.2.2.2.2.2.2.warm hW⟩⟩ rfl (by rw [List.length_map]; exact hn) hl.1 rfl (lv_room hcat) hd ⟨hc, hs⟩) k
-- super.method()
def aLkSU (own : String) (idx ci : Nat) (Y : aM) (n : Nat) : Prop := aCal Y ∧ ∃ (K : String) (T : u_T) (N : Nat), vwCl[ci]? = some (K, T, N) ∧ Cond.methodLink own idx Y.1 ∈ lw_ok ∧ Cond.sameMethod Y.1.cls Y.1.cls Y.1.name Y.1.desc ∈ lw_ok ∧ Cond.superclass own Y.1.cls ∈ lw_ok ∧ Cond.instanceMethod Y.1 ∈ lw_ok ∧ Y.1.name ≠ "<init>" ∧ (parseMethodDescriptor Y.1.desc).map (fun d => d.parameters.length) = some n
theorem x_callSU {b ci n idx : Nat} {fs : List aV} (as : List aV) {stk : List aV} (hd : decode X.2.1 pc = .ok (.invokespecial idx, 3)) (hk : aLkSU X.1.cls idx ci Y n) (hstk : stk = as.reverse ++ vA b :: st) (hn : as.length = n) (hb : h b = some (eO ci fs)) (hdd : d' + 1 ≤ d) (hcat : ((st.map cv).map fun v => v.category).sum ≤ 8) (hc : kc + mc' ≤ mc) (hs : ks + ms' ≤ ms)
    (hM : MC G Y d' mc' ms' (vA b :: as) h Q') (k : ∀ (r : Option aV) (h' : aH), Q' r h' → EX G X d mc ms Q (pc + 3) L (r.toList ++ st) h' (kc + mc') (ks + ms')) : EX G X d mc ms Q pc L stk h kc ks := by
  subst hstk
  intro p e s m args below meth c A H ls locs C hA w hS ho h1 h2 hl
  obtain ⟨hY, K, T, N, hcl, hlk, hsm, hsup, hin, hnm, hpar⟩ := hk
  have hts := C.2.2.2.2.2.1
  obtain ⟨o1, o2⟩ := ok_app h1
  have hM1 := hM (ok_c trivial o1) ho H.size
  have hrcv := aRecv C w hb hcl
  have hcall : va_CS (aRm d mc ms) s args X.1.cls idx Y.1 Y.2.1 Y.2.2.1 Y.2.2.2 (.code Y.1 Y.2.1 Y.2.2.1 Y.2.2.2 :: lw_ok) (aRm d' mc' ms') mc' ms' n :=
    ⟨⟨rfl, rfl, hdd, room_le hdd hY.2.2.2, pay_in hts hY.good, List.mem_cons_self⟩, hts _ hlk, hts _ hsm, hts _ hsup, hts _ hin, hts _ hY.2.1, hts _ hY.1, hnm, aPar hpar⟩
  rw [st_rev, List.map_cons]
  refine x_after (st := st) C hA w hS (ok_t o2) h2 hl (va_runSU (C.2.2.2.2.2.2.2.2.1.1 ci _ hcl).2 (As := as.map cv) (rest := st.map cv) ⟨C.1, C.2.1, C.2.2.1, C.2.2.2.2.1, hts⟩ hM1 hcall ⟨aPc_blind _ _, hrcv, fun U hU hW => ⟨rfl, by rw [hU], by rw [hU]; exact w.weaken fun _ _ _ => trivial, C.2.2.2.2.2.2.2.2.warm hW⟩⟩ rfl (by rw [List.length_map]; exact hn) hl.1 rfl (lv_room hcat) hd ⟨hc, hs⟩) k
/-- Object's constructor -/
theorem x_objInit {a idx : Nat} (hd : decode X.2.1 pc = .ok (.invokespecial idx, 3)) (hlk : Cond.methodLink X.1.cls idx Lib.objectInit ∈ lw_ok) (hd1 : 1 ≤ d) (hcat : ((st.map cv).map fun v => v.category).sum ≤ 8) (k : EX G X d mc ms Q (pc + 3) L st h kc ks) : EX G X d mc ms Q pc L (vA a :: st) h kc ks := by
  intro p e s m args below meth c A H ls locs C hA w hS ho h1 h2 hl
  have hts := C.2.2.2.2.2.1
  have e1 : Cond.instanceMethod Lib.objectInit ∈ lw_ok := by decide +kernel
  have e2 : Cond.code Lib.objectInit ⟨#[0xb1]⟩ 1 none ∈ lw_ok := by decide +kernel
  refine W.objInit C.1 C.2.1 C.2.2.2.2.1 (hts _ hlk) (hts _ e1) (hts _ e2) rfl (hl.1.trans C.2.2.1.symm) rfl hd hd1 ?_ (k p e s m args below meth c A H ls locs C hA w hS ho (ok_t h1) h2 hl)
  show 2 * 0 + ((st.map cv).map fun v => v.category).sum + 12 ≤ 38 * d
  omega
-- Math
theorem x_maxI {idx : Nat} {x y : Int} (hd : decode X.2.1 pc = .ok (.invokestatic idx, 3)) (hlk : Cond.methodLink X.1.cls idx Lib.Math.max.name ∈ lw_ok) (hd1 : 1 ≤ d) (hcat : ((st.map cv).map fun v => v.category).sum ≤ 8) (hc : kc ≤ mc) (hs : ks ≤ ms) (k : EX G X d mc ms Q (pc + 3) L (vI (max x y) :: st) h kc ks) : EX G X d mc ms Q pc L (vI y :: vI x :: st) h kc ks := by
  intro p e s m args below meth c A H ls locs C hA w hS ho h1 h2 hl
  have hts := C.2.2.2.2.2.1
  have e1 : Cond.static Lib.Math.max.name ∈ lw_ok := by decide +kernel
  have e2 : Cond.code Lib.Math.max.name Lib.Math.max.code 2 (some .int) ∈ lw_ok := by decide +kernel
  have e3 : Cond.initialized "java/lang/Math" ∈ lw_ok := by decide +kernel
  have oy := ok_I h1
  have ox := ok_I (ok_t h1)
  refine va_mmax C.1 C.2.1 (C.2.2.1.trans hl.1.symm) C.2.2.2.2.1 (hts _ hlk) (hts _ e1) (hts _ e3) (hts _ e2) hd1 ?_ hc hs hd ?_
  · show ((st.map cv).map fun v => v.category).sum + 13 ≤ 38 * d
    omega
  · have hm : (if Int32.ofInt x < Int32.ofInt y then Int32.ofInt y else Int32.ofInt x) = Int32.ofInt (max x y) := by
      by_cases hxy : x < y
      · rw [if_pos ((i32_lt ox oy).mpr hxy), Int.max_eq_right (by omega)]
      · rw [if_neg (fun z => hxy ((i32_lt ox oy).mp z)), Int.max_eq_left (by omega)]
    rw [hm]
    exact k p e s m args below meth c A H ls locs C hA w hS ho (ok_c (show okI _ by unfold okI at *; omega) (ok_t (ok_t h1))) h2 hl
theorem x_minI {idx : Nat} {x y : Int} (hd : decode X.2.1 pc = .ok (.invokestatic idx, 3)) (hlk : Cond.methodLink X.1.cls idx Lib.Math.min.name ∈ lw_ok) (hd1 : 1 ≤ d) (hcat : ((st.map cv).map fun v => v.category).sum ≤ 8) (hc : kc ≤ mc) (hs : ks ≤ ms) (k : EX G X d mc ms Q (pc + 3) L (vI (min x y) :: st) h kc ks) : EX G X d mc ms Q pc L (vI y :: vI x :: st) h kc ks := by
  intro p e s m args below meth c A H ls locs C hA w hS ho h1 h2 hl
  have hts := C.2.2.2.2.2.1
  have e1 : Cond.static Lib.Math.min.name ∈ lw_ok := by decide +kernel
  have e2 : Cond.code Lib.Math.min.name Lib.Math.min.code 2 (some .int) ∈ lw_ok := by decide +kernel
  have e3 : Cond.initialized "java/lang/Math" ∈ lw_ok := by decide +kernel
  have oy := ok_I h1
  have ox := ok_I (ok_t h1)
  refine va_mmin C.1 C.2.1 (C.2.2.1.trans hl.1.symm) C.2.2.2.2.1 (hts _ hlk) (hts _ e1) (hts _ e3) (hts _ e2) hd1 ?_ hc hs hd ?_
  · show ((st.map cv).map fun v => v.category).sum + 13 ≤ 38 * d
    omega
  · have hm : (if Int32.ofInt y < Int32.ofInt x then Int32.ofInt y else Int32.ofInt x) = Int32.ofInt (min x y) := by
      by_cases hxy : y < x
      · rw [if_pos ((i32_lt oy ox).mpr hxy), Int.min_eq_right (by omega)]
      · rw [if_neg (fun z => hxy ((i32_lt oy ox).mp z)), Int.min_eq_left (by omega)]
    rw [hm]
    exact k p e s m args below meth c A H ls locs C hA w hS ho (ok_c (show okI _ by unfold okI at *; omega) (ok_t (ok_t h1))) h2 hl
theorem x_maxJ {idx : Nat} {x y : Int} (hd : decode X.2.1 pc = .ok (.invokestatic idx, 3)) (hlk : Cond.methodLink X.1.cls idx Lib.MathLoose.max_long.x ∈ lw_ok) (hd1 : 1 ≤ d) (hcat : ((st.map cv).map fun v => v.category).sum ≤ 8) (hc : kc ≤ mc) (hs : ks ≤ ms) (k : EX G X d mc ms Q (pc + 3) L (vJ (max x y) :: st) h kc ks) : EX G X d mc ms Q pc L (vJ y :: vJ x :: st) h kc ks := by
  intro p e s m args below meth c A H ls locs C hA w hS ho h1 h2 hl
  have hts := C.2.2.2.2.2.1
  have e1 : Cond.static Lib.MathLoose.max_long.x ∈ lw_ok := by decide +kernel
  have e2 : Cond.code Lib.MathLoose.max_long.x Lib.MathLoose.max_long.code 4 (some .long) ∈ lw_ok := by decide +kernel
  have e3 : Cond.initialized "java/lang/Math" ∈ lw_ok := by decide +kernel
  have oy := ok_J h1
  have ox := ok_J (ok_t h1)
  refine va_mmax_long C.1 C.2.1 (C.2.2.1.trans hl.1.symm) C.2.2.2.2.1 (hts _ hlk) (hts _ e1) (hts _ e3) (hts _ e2) hd1 ?_ hc hs hd ?_
  · show ((st.map cv).map fun v => v.category).sum + 15 ≤ 38 * d
    omega
  · have hm : (if Int64.ofInt y < Int64.ofInt x then Int64.ofInt x else Int64.ofInt y) = Int64.ofInt (max x y) := by
      by_cases hxy : y < x
      · rw [if_pos ((i64_lt oy ox).mpr hxy), Int.max_eq_left (by omega)]
      · rw [if_neg (fun z => hxy ((i64_lt oy ox).mp z)), Int.max_eq_right (by omega)]
    rw [hm]
    exact k p e s m args below meth c A H ls locs C hA w hS ho (ok_c (show okJ _ by unfold okJ at *; omega) (ok_t (ok_t h1))) h2 hl
theorem x_minJ {idx : Nat} {x y : Int} (hd : decode X.2.1 pc = .ok (.invokestatic idx, 3)) (hlk : Cond.methodLink X.1.cls idx Lib.MathLoose.min_long.x ∈ lw_ok) (hd1 : 1 ≤ d) (hcat : ((st.map cv).map fun v => v.category).sum ≤ 8) (hc : kc ≤ mc) (hs : ks ≤ ms) (k : EX G X d mc ms Q (pc + 3) L (vJ (min x y) :: st) h kc ks) : EX G X d mc ms Q pc L (vJ y :: vJ x :: st) h kc ks := by
  intro p e s m args below meth c A H ls locs C hA w hS ho h1 h2 hl
  have hts := C.2.2.2.2.2.1
  have e1 : Cond.static Lib.MathLoose.min_long.x ∈ lw_ok := by decide +kernel
  have e2 : Cond.code Lib.MathLoose.min_long.x Lib.MathLoose.min_long.code 4 (some .long) ∈ lw_ok := by decide +kernel
  have e3 : Cond.initialized "java/lang/Math" ∈ lw_ok := by decide +kernel
  have oy := ok_J h1
  have ox := ok_J (ok_t h1)
  refine va_mmin_long C.1 C.2.1 (C.2.2.1.trans hl.1.symm) C.2.2.2.2.1 (hts _ hlk) (hts _ e1) (hts _ e3) (hts _ e2) hd1 ?_ hc hs hd ?_
  · show ((st.map cv).map fun v => v.category).sum + 15 ≤ 38 * d
    omega
  · have hm : (if Int64.ofInt y < Int64.ofInt x then Int64.ofInt y else Int64.ofInt x) = Int64.ofInt (min x y) := by
      by_cases hxy : y < x
      · rw [if_pos ((i64_lt oy ox).mpr hxy), Int.min_eq_right (by omega)]
      · rw [if_neg (fun z => hxy ((i64_lt oy ox).mp z)), Int.min_eq_left (by omega)]
    rw [hm]
    exact k p e s m args below meth c A H ls locs C hA w hS ho (ok_c (show okJ _ by unfold okJ at *; omega) (ok_t (ok_t h1))) h2 hl
end XC
end
section
theorem dX0_init_0 : decode cX0_init 0 = .ok (.aload_n 0, 1) := by decide +kernel
theorem dX0_init_1 : decode cX0_init 1 = .ok (.iload_n 1, 1) := by decide +kernel
theorem dX0_init_2 : decode cX0_init 2 = .ok (.iload_n 2, 1) := by decide +kernel
theorem dX0_init_3 : decode cX0_init 3 = .ok (.iload_n 3, 1) := by decide +kernel
theorem dX0_init_4 : decode cX0_init 4 = .ok (.aload 4, 2) := by decide +kernel
theorem dX0_init_6 : decode cX0_init 6 = .ok (.invokespecial 3, 3) := by decide +kernel
theorem dX0_init_9 : decode cX0_init 9 = .ok (.aload_n 0, 1) := by decide +kernel
theorem dX0_init_10 : decode cX0_init 10 = .ok (.lload 5, 2) := by decide +kernel
theorem dX0_init_12 : decode cX0_init 12 = .ok (.putfield 9, 3) := by decide +kernel
theorem dX0_init_15 : decode cX0_init 15 = .ok (.return_, 1) := by decide +kernel
theorem dX0_kind_0 : decode cX0_kind 0 = .ok (.iconst 1, 1) := by decide +kernel
theorem dX0_kind_1 : decode cX0_kind 1 = .ok (.ireturn, 1) := by decide +kernel
theorem dX0_asked_0 : decode cX0_asked 0 = .ok (.aload_n 2, 1) := by decide +kernel
theorem dX0_asked_1 : decode cX0_asked 1 = .ok (.iconst 1, 1) := by decide +kernel
theorem dX0_asked_2 : decode cX0_asked 2 = .ok (.invokevirtual 15, 3) := by decide +kernel
theorem dX0_asked_5 : decode cX0_asked 5 = .ok (.aload_n 0, 1) := by decide +kernel
theorem dX0_asked_6 : decode cX0_asked 6 = .ok (.iload_n 1, 1) := by decide +kernel
theorem dX0_asked_7 : decode cX0_asked 7 = .ok (.aload_n 2, 1) := by decide +kernel
theorem dX0_asked_8 : decode cX0_asked 8 = .ok (.invokespecial 21, 3) := by decide +kernel
theorem dX0_asked_11 : decode cX0_asked 11 = .ok (.lstore_n 3, 1) := by decide +kernel
theorem dX0_asked_12 : decode cX0_asked 12 = .ok (.iload_n 1, 1) := by decide +kernel
theorem dX0_asked_13 : decode cX0_asked 13 = .ok (.ifCond .ne 7, 3) := by decide +kernel
theorem dX0_asked_16 : decode cX0_asked 16 = .ok (.lconst 0, 1) := by decide +kernel
theorem dX0_asked_17 : decode cX0_asked 17 = .ok (.goto 9, 3) := by decide +kernel
theorem dX0_asked_20 : decode cX0_asked 20 = .ok (.lload_n 3, 1) := by decide +kernel
theorem dX0_asked_21 : decode cX0_asked 21 = .ok (.aload_n 0, 1) := by decide +kernel
theorem dX0_asked_22 : decode cX0_asked 22 = .ok (.getfield 9, 3) := by decide +kernel
theorem dX0_asked_25 : decode cX0_asked 25 = .ok (.ladd, 1) := by decide +kernel
theorem dX0_asked_26 : decode cX0_asked 26 = .ok (.lreturn, 1) := by decide +kernel
theorem dX1_init_0 : decode cX1_init 0 = .ok (.aload_n 0, 1) := by decide +kernel
theorem dX1_init_1 : decode cX1_init 1 = .ok (.invokespecial 3, 3) := by decide +kernel
theorem dX1_init_4 : decode cX1_init 4 = .ok (.aload_n 0, 1) := by decide +kernel
theorem dX1_init_5 : decode cX1_init 5 = .ok (.iload_n 1, 1) := by decide +kernel
theorem dX1_init_6 : decode cX1_init 6 = .ok (.putfield 9, 3) := by decide +kernel
theorem dX1_init_9 : decode cX1_init 9 = .ok (.aload_n 0, 1) := by decide +kernel
theorem dX1_init_10 : decode cX1_init 10 = .ok (.iload_n 2, 1) := by decide +kernel
theorem dX1_init_11 : decode cX1_init 11 = .ok (.putfield 15, 3) := by decide +kernel
theorem dX1_init_14 : decode cX1_init 14 = .ok (.aload_n 0, 1) := by decide +kernel
theorem dX1_init_15 : decode cX1_init 15 = .ok (.iload_n 3, 1) := by decide +kernel
theorem dX1_init_16 : decode cX1_init 16 = .ok (.putfield 18, 3) := by decide +kernel
theorem dX1_init_19 : decode cX1_init 19 = .ok (.aload_n 0, 1) := by decide +kernel
theorem dX1_init_20 : decode cX1_init 20 = .ok (.aload 4, 2) := by decide +kernel
theorem dX1_init_22 : decode cX1_init 22 = .ok (.putfield 21, 3) := by decide +kernel
theorem dX1_init_25 : decode cX1_init 25 = .ok (.return_, 1) := by decide +kernel
theorem dX1_kind_0 : decode cX1_kind 0 = .ok (.iconst 0, 1) := by decide +kernel
theorem dX1_kind_1 : decode cX1_kind 1 = .ok (.ireturn, 1) := by decide +kernel
theorem dX1_asked_0 : decode cX1_asked 0 = .ok (.aload_n 2, 1) := by decide +kernel
theorem dX1_asked_1 : decode cX1_asked 1 = .ok (.iconst 0, 1) := by decide +kernel
theorem dX1_asked_2 : decode cX1_asked 2 = .ok (.invokevirtual 25, 3) := by decide +kernel
theorem dX1_asked_5 : decode cX1_asked 5 = .ok (.aload_n 0, 1) := by decide +kernel
theorem dX1_asked_6 : decode cX1_asked 6 = .ok (.iload_n 1, 1) := by decide +kernel
theorem dX1_asked_7 : decode cX1_asked 7 = .ok (.invokevirtual 31, 3) := by decide +kernel
theorem dX1_asked_10 : decode cX1_asked 10 = .ok (.lreturn, 1) := by decide +kernel
theorem dX1_amount_0 : decode cX1_amount 0 = .ok (.iload_n 1, 1) := by decide +kernel
theorem dX1_amount_1 : decode cX1_amount 1 = .ok (.ifCond .lt 11, 3) := by decide +kernel
theorem dX1_amount_4 : decode cX1_amount 4 = .ok (.aload_n 0, 1) := by decide +kernel
theorem dX1_amount_5 : decode cX1_amount 5 = .ok (.getfield 15, 3) := by decide +kernel
theorem dX1_amount_8 : decode cX1_amount 8 = .ok (.iconst 1, 1) := by decide +kernel
theorem dX1_amount_9 : decode cX1_amount 9 = .ok (.if_icmp .ge 5, 3) := by decide +kernel
theorem dX1_amount_12 : decode cX1_amount 12 = .ok (.lconst 0, 1) := by decide +kernel
theorem dX1_amount_13 : decode cX1_amount 13 = .ok (.lreturn, 1) := by decide +kernel
theorem dX1_amount_14 : decode cX1_amount 14 = .ok (.iload_n 1, 1) := by decide +kernel
theorem dX1_amount_15 : decode cX1_amount 15 = .ok (.aload_n 0, 1) := by decide +kernel
theorem dX1_amount_16 : decode cX1_amount 16 = .ok (.getfield 21, 3) := by decide +kernel
theorem dX1_amount_19 : decode cX1_amount 19 = .ok (.arraylength, 1) := by decide +kernel
theorem dX1_amount_20 : decode cX1_amount 20 = .ok (.if_icmp .ge 10, 3) := by decide +kernel
theorem dX1_amount_23 : decode cX1_amount 23 = .ok (.aload_n 0, 1) := by decide +kernel
theorem dX1_amount_24 : decode cX1_amount 24 = .ok (.getfield 21, 3) := by decide +kernel
theorem dX1_amount_27 : decode cX1_amount 27 = .ok (.iload_n 1, 1) := by decide +kernel
theorem dX1_amount_28 : decode cX1_amount 28 = .ok (.laload, 1) := by decide +kernel
theorem dX1_amount_29 : decode cX1_amount 29 = .ok (.lreturn, 1) := by decide +kernel
theorem dX1_amount_30 : decode cX1_amount 30 = .ok (.iload_n 1, 1) := by decide +kernel
theorem dX1_amount_31 : decode cX1_amount 31 = .ok (.aload_n 0, 1) := by decide +kernel
theorem dX1_amount_32 : decode cX1_amount 32 = .ok (.getfield 9, 3) := by decide +kernel
theorem dX1_amount_35 : decode cX1_amount 35 = .ok (.isub, 1) := by decide +kernel
theorem dX1_amount_36 : decode cX1_amount 36 = .ok (.istore_n 2, 1) := by decide +kernel
theorem dX1_amount_37 : decode cX1_amount 37 = .ok (.aload_n 0, 1) := by decide +kernel
theorem dX1_amount_38 : decode cX1_amount 38 = .ok (.getfield 9, 3) := by decide +kernel
theorem dX1_amount_41 : decode cX1_amount 41 = .ok (.iload_n 2, 1) := by decide +kernel
theorem dX1_amount_42 : decode cX1_amount 42 = .ok (.aload_n 0, 1) := by decide +kernel
theorem dX1_amount_43 : decode cX1_amount 43 = .ok (.getfield 15, 3) := by decide +kernel
theorem dX1_amount_46 : decode cX1_amount 46 = .ok (.irem, 1) := by decide +kernel
theorem dX1_amount_47 : decode cX1_amount 47 = .ok (.iadd, 1) := by decide +kernel
theorem dX1_amount_48 : decode cX1_amount 48 = .ok (.istore_n 3, 1) := by decide +kernel
theorem dX1_amount_49 : decode cX1_amount 49 = .ok (.iload_n 3, 1) := by decide +kernel
theorem dX1_amount_50 : decode cX1_amount 50 = .ok (.ifCond .lt 12, 3) := by decide +kernel
theorem dX1_amount_53 : decode cX1_amount 53 = .ok (.iload_n 3, 1) := by decide +kernel
theorem dX1_amount_54 : decode cX1_amount 54 = .ok (.aload_n 0, 1) := by decide +kernel
theorem dX1_amount_55 : decode cX1_amount 55 = .ok (.getfield 21, 3) := by decide +kernel
theorem dX1_amount_58 : decode cX1_amount 58 = .ok (.arraylength, 1) := by decide +kernel
theorem dX1_amount_59 : decode cX1_amount 59 = .ok (.if_icmp .lt 5, 3) := by decide +kernel
theorem dX1_amount_62 : decode cX1_amount 62 = .ok (.lconst 0, 1) := by decide +kernel
theorem dX1_amount_63 : decode cX1_amount 63 = .ok (.lreturn, 1) := by decide +kernel
theorem dX1_amount_64 : decode cX1_amount 64 = .ok (.aload_n 0, 1) := by decide +kernel
theorem dX1_amount_65 : decode cX1_amount 65 = .ok (.getfield 21, 3) := by decide +kernel
theorem dX1_amount_68 : decode cX1_amount 68 = .ok (.iload_n 3, 1) := by decide +kernel
theorem dX1_amount_69 : decode cX1_amount 69 = .ok (.laload, 1) := by decide +kernel
theorem dX1_amount_70 : decode cX1_amount 70 = .ok (.iload_n 2, 1) := by decide +kernel
theorem dX1_amount_71 : decode cX1_amount 71 = .ok (.aload_n 0, 1) := by decide +kernel
theorem dX1_amount_72 : decode cX1_amount 72 = .ok (.getfield 15, 3) := by decide +kernel
theorem dX1_amount_75 : decode cX1_amount 75 = .ok (.idiv, 1) := by decide +kernel
theorem dX1_amount_76 : decode cX1_amount 76 = .ok (.i2l, 1) := by decide +kernel
theorem dX1_amount_77 : decode cX1_amount 77 = .ok (.aload_n 0, 1) := by decide +kernel
theorem dX1_amount_78 : decode cX1_amount 78 = .ok (.getfield 18, 3) := by decide +kernel
theorem dX1_amount_81 : decode cX1_amount 81 = .ok (.i2l, 1) := by decide +kernel
theorem dX1_amount_82 : decode cX1_amount 82 = .ok (.lmul, 1) := by decide +kernel
theorem dX1_amount_83 : decode cX1_amount 83 = .ok (.ladd, 1) := by decide +kernel
theorem dX1_amount_84 : decode cX1_amount 84 = .ok (.lreturn, 1) := by decide +kernel
theorem dX1_gainIn_0 : decode cX1_gainIn 0 = .ok (.aload_n 0, 1) := by decide +kernel
theorem dX1_gainIn_1 : decode cX1_gainIn 1 = .ok (.getfield 15, 3) := by decide +kernel
theorem dX1_gainIn_4 : decode cX1_gainIn 4 = .ok (.iconst 1, 1) := by decide +kernel
theorem dX1_gainIn_5 : decode cX1_gainIn 5 = .ok (.if_icmp .ge 7, 3) := by decide +kernel
theorem dX1_gainIn_8 : decode cX1_gainIn 8 = .ok (.lconst 0, 1) := by decide +kernel
theorem dX1_gainIn_9 : decode cX1_gainIn 9 = .ok (.goto 16, 3) := by decide +kernel
theorem dX1_gainIn_12 : decode cX1_gainIn 12 = .ok (.aload_n 0, 1) := by decide +kernel
theorem dX1_gainIn_13 : decode cX1_gainIn 13 = .ok (.getfield 18, 3) := by decide +kernel
theorem dX1_gainIn_16 : decode cX1_gainIn 16 = .ok (.i2l, 1) := by decide +kernel
theorem dX1_gainIn_17 : decode cX1_gainIn 17 = .ok (.iload_n 1, 1) := by decide +kernel
theorem dX1_gainIn_18 : decode cX1_gainIn 18 = .ok (.aload_n 0, 1) := by decide +kernel
theorem dX1_gainIn_19 : decode cX1_gainIn 19 = .ok (.getfield 15, 3) := by decide +kernel
theorem dX1_gainIn_22 : decode cX1_gainIn 22 = .ok (.idiv, 1) := by decide +kernel
theorem dX1_gainIn_23 : decode cX1_gainIn 23 = .ok (.i2l, 1) := by decide +kernel
theorem dX1_gainIn_24 : decode cX1_gainIn 24 = .ok (.lmul, 1) := by decide +kernel
theorem dX1_gainIn_25 : decode cX1_gainIn 25 = .ok (.lreturn, 1) := by decide +kernel
theorem dX1_sharedByGainAndStep_0 : decode cX1_sharedByGainAndStep 0 = .ok (.aload_n 0, 1) := by decide +kernel
theorem dX1_sharedByGainAndStep_1 : decode cX1_sharedByGainAndStep 1 = .ok (.getfield 15, 3) := by decide +kernel
theorem dX1_sharedByGainAndStep_4 : decode cX1_sharedByGainAndStep 4 = .ok (.istore_n 1, 1) := by decide +kernel
theorem dX1_sharedByGainAndStep_5 : decode cX1_sharedByGainAndStep 5 = .ok (.iload_n 1, 1) := by decide +kernel
theorem dX1_sharedByGainAndStep_6 : decode cX1_sharedByGainAndStep 6 = .ok (.iconst 1, 1) := by decide +kernel
theorem dX1_sharedByGainAndStep_7 : decode cX1_sharedByGainAndStep 7 = .ok (.if_icmp .le 29, 3) := by decide +kernel
theorem dX1_sharedByGainAndStep_10 : decode cX1_sharedByGainAndStep 10 = .ok (.aload_n 0, 1) := by decide +kernel
theorem dX1_sharedByGainAndStep_11 : decode cX1_sharedByGainAndStep 11 = .ok (.getfield 18, 3) := by decide +kernel
theorem dX1_sharedByGainAndStep_14 : decode cX1_sharedByGainAndStep 14 = .ok (.iload_n 1, 1) := by decide +kernel
theorem dX1_sharedByGainAndStep_15 : decode cX1_sharedByGainAndStep 15 = .ok (.irem, 1) := by decide +kernel
theorem dX1_sharedByGainAndStep_16 : decode cX1_sharedByGainAndStep 16 = .ok (.ifCond .ne 14, 3) := by decide +kernel
theorem dX1_sharedByGainAndStep_19 : decode cX1_sharedByGainAndStep 19 = .ok (.aload_n 0, 1) := by decide +kernel
theorem dX1_sharedByGainAndStep_20 : decode cX1_sharedByGainAndStep 20 = .ok (.getfield 15, 3) := by decide +kernel
theorem dX1_sharedByGainAndStep_23 : decode cX1_sharedByGainAndStep 23 = .ok (.iload_n 1, 1) := by decide +kernel
theorem dX1_sharedByGainAndStep_24 : decode cX1_sharedByGainAndStep 24 = .ok (.irem, 1) := by decide +kernel
theorem dX1_sharedByGainAndStep_25 : decode cX1_sharedByGainAndStep 25 = .ok (.ifCond .ne 5, 3) := by decide +kernel
theorem dX1_sharedByGainAndStep_28 : decode cX1_sharedByGainAndStep 28 = .ok (.iload_n 1, 1) := by decide +kernel
theorem dX1_sharedByGainAndStep_29 : decode cX1_sharedByGainAndStep 29 = .ok (.ireturn, 1) := by decide +kernel
theorem dX1_sharedByGainAndStep_30 : decode cX1_sharedByGainAndStep 30 = .ok (.iinc 1 (-1), 3) := by decide +kernel
theorem dX1_sharedByGainAndStep_33 : decode cX1_sharedByGainAndStep 33 = .ok (.goto (-28), 3) := by decide +kernel
theorem dX1_sharedByGainAndStep_36 : decode cX1_sharedByGainAndStep 36 = .ok (.iconst 1, 1) := by decide +kernel
theorem dX1_sharedByGainAndStep_37 : decode cX1_sharedByGainAndStep 37 = .ok (.ireturn, 1) := by decide +kernel
theorem dX1_firstReaching_0 : decode cX1_firstReaching 0 = .ok (.iconst (-1), 1) := by decide +kernel
theorem dX1_firstReaching_1 : decode cX1_firstReaching 1 = .ok (.istore 4, 2) := by decide +kernel
theorem dX1_firstReaching_3 : decode cX1_firstReaching 3 = .ok (.bipush 30, 2) := by decide +kernel
theorem dX1_firstReaching_5 : decode cX1_firstReaching 5 = .ok (.istore 5, 2) := by decide +kernel
theorem dX1_firstReaching_7 : decode cX1_firstReaching 7 = .ok (.iload 5, 2) := by decide +kernel
theorem dX1_firstReaching_9 : decode cX1_firstReaching 9 = .ok (.ifCond .lt 39, 3) := by decide +kernel
theorem dX1_firstReaching_12 : decode cX1_firstReaching 12 = .ok (.iload 4, 2) := by decide +kernel
theorem dX1_firstReaching_14 : decode cX1_firstReaching 14 = .ok (.iconst 1, 1) := by decide +kernel
theorem dX1_firstReaching_15 : decode cX1_firstReaching 15 = .ok (.iload 5, 2) := by decide +kernel
theorem dX1_firstReaching_17 : decode cX1_firstReaching 17 = .ok (.ishl, 1) := by decide +kernel
theorem dX1_firstReaching_18 : decode cX1_firstReaching 18 = .ok (.iadd, 1) := by decide +kernel
theorem dX1_firstReaching_19 : decode cX1_firstReaching 19 = .ok (.istore 6, 2) := by decide +kernel
theorem dX1_firstReaching_21 : decode cX1_firstReaching 21 = .ok (.iload 6, 2) := by decide +kernel
theorem dX1_firstReaching_23 : decode cX1_firstReaching 23 = .ok (.iload_n 3, 1) := by decide +kernel
theorem dX1_firstReaching_24 : decode cX1_firstReaching 24 = .ok (.if_icmp .gt 18, 3) := by decide +kernel
theorem dX1_firstReaching_27 : decode cX1_firstReaching 27 = .ok (.aload_n 0, 1) := by decide +kernel
theorem dX1_firstReaching_28 : decode cX1_firstReaching 28 = .ok (.iload 6, 2) := by decide +kernel
theorem dX1_firstReaching_30 : decode cX1_firstReaching 30 = .ok (.invokevirtual 31, 3) := by decide +kernel
theorem dX1_firstReaching_33 : decode cX1_firstReaching 33 = .ok (.lload_n 1, 1) := by decide +kernel
theorem dX1_firstReaching_34 : decode cX1_firstReaching 34 = .ok (.lcmp, 1) := by decide +kernel
theorem dX1_firstReaching_35 : decode cX1_firstReaching 35 = .ok (.ifCond .ge 7, 3) := by decide +kernel
theorem dX1_firstReaching_38 : decode cX1_firstReaching 38 = .ok (.iload 6, 2) := by decide +kernel
theorem dX1_firstReaching_40 : decode cX1_firstReaching 40 = .ok (.istore 4, 2) := by decide +kernel
theorem dX1_firstReaching_42 : decode cX1_firstReaching 42 = .ok (.iinc 5 (-1), 3) := by decide +kernel
theorem dX1_firstReaching_45 : decode cX1_firstReaching 45 = .ok (.goto (-38), 3) := by decide +kernel
theorem dX1_firstReaching_48 : decode cX1_firstReaching 48 = .ok (.iload 4, 2) := by decide +kernel
theorem dX1_firstReaching_50 : decode cX1_firstReaching 50 = .ok (.iload_n 3, 1) := by decide +kernel
theorem dX1_firstReaching_51 : decode cX1_firstReaching 51 = .ok (.if_icmp .ge 10, 3) := by decide +kernel
theorem dX1_firstReaching_54 : decode cX1_firstReaching 54 = .ok (.iload 4, 2) := by decide +kernel
theorem dX1_firstReaching_56 : decode cX1_firstReaching 56 = .ok (.iconst 1, 1) := by decide +kernel
theorem dX1_firstReaching_57 : decode cX1_firstReaching 57 = .ok (.iadd, 1) := by decide +kernel
theorem dX1_firstReaching_58 : decode cX1_firstReaching 58 = .ok (.goto 4, 3) := by decide +kernel
theorem dX1_firstReaching_61 : decode cX1_firstReaching 61 = .ok (.iconst (-1), 1) := by decide +kernel
theorem dX1_firstReaching_62 : decode cX1_firstReaching 62 = .ok (.ireturn, 1) := by decide +kernel
theorem dX1_isClosed_0 : decode cX1_isClosed 0 = .ok (.aload_n 0, 1) := by decide +kernel
theorem dX1_isClosed_1 : decode cX1_isClosed 1 = .ok (.iconst 0, 1) := by decide +kernel
theorem dX1_isClosed_2 : decode cX1_isClosed 2 = .ok (.invokevirtual 31, 3) := by decide +kernel
theorem dX1_isClosed_5 : decode cX1_isClosed 5 = .ok (.lconst 0, 1) := by decide +kernel
theorem dX1_isClosed_6 : decode cX1_isClosed 6 = .ok (.lcmp, 1) := by decide +kernel
theorem dX1_isClosed_7 : decode cX1_isClosed 7 = .ok (.ifCond .eq 5, 3) := by decide +kernel
theorem dX1_isClosed_10 : decode cX1_isClosed 10 = .ok (.iconst 0, 1) := by decide +kernel
theorem dX1_isClosed_11 : decode cX1_isClosed 11 = .ok (.ireturn, 1) := by decide +kernel
theorem dX1_isClosed_12 : decode cX1_isClosed 12 = .ok (.iconst 1, 1) := by decide +kernel
theorem dX1_isClosed_13 : decode cX1_isClosed 13 = .ok (.istore_n 1, 1) := by decide +kernel
theorem dX1_isClosed_14 : decode cX1_isClosed 14 = .ok (.iload_n 1, 1) := by decide +kernel
theorem dX1_isClosed_15 : decode cX1_isClosed 15 = .ok (.aload_n 0, 1) := by decide +kernel
theorem dX1_isClosed_16 : decode cX1_isClosed 16 = .ok (.getfield 21, 3) := by decide +kernel
theorem dX1_isClosed_19 : decode cX1_isClosed 19 = .ok (.arraylength, 1) := by decide +kernel
theorem dX1_isClosed_20 : decode cX1_isClosed 20 = .ok (.if_icmp .ge 52, 3) := by decide +kernel
theorem dX1_isClosed_23 : decode cX1_isClosed 23 = .ok (.iload_n 1, 1) := by decide +kernel
theorem dX1_isClosed_24 : decode cX1_isClosed 24 = .ok (.istore_n 2, 1) := by decide +kernel
theorem dX1_isClosed_25 : decode cX1_isClosed 25 = .ok (.iload_n 2, 1) := by decide +kernel
theorem dX1_isClosed_26 : decode cX1_isClosed 26 = .ok (.aload_n 0, 1) := by decide +kernel
theorem dX1_isClosed_27 : decode cX1_isClosed 27 = .ok (.getfield 21, 3) := by decide +kernel
theorem dX1_isClosed_30 : decode cX1_isClosed 30 = .ok (.arraylength, 1) := by decide +kernel
theorem dX1_isClosed_31 : decode cX1_isClosed 31 = .ok (.if_icmp .ge 35, 3) := by decide +kernel
theorem dX1_isClosed_34 : decode cX1_isClosed 34 = .ok (.aload_n 0, 1) := by decide +kernel
theorem dX1_isClosed_35 : decode cX1_isClosed 35 = .ok (.iload_n 1, 1) := by decide +kernel
theorem dX1_isClosed_36 : decode cX1_isClosed 36 = .ok (.iload_n 2, 1) := by decide +kernel
theorem dX1_isClosed_37 : decode cX1_isClosed 37 = .ok (.iadd, 1) := by decide +kernel
theorem dX1_isClosed_38 : decode cX1_isClosed 38 = .ok (.invokevirtual 31, 3) := by decide +kernel
theorem dX1_isClosed_41 : decode cX1_isClosed 41 = .ok (.aload_n 0, 1) := by decide +kernel
theorem dX1_isClosed_42 : decode cX1_isClosed 42 = .ok (.getfield 21, 3) := by decide +kernel
theorem dX1_isClosed_45 : decode cX1_isClosed 45 = .ok (.iload_n 1, 1) := by decide +kernel
theorem dX1_isClosed_46 : decode cX1_isClosed 46 = .ok (.laload, 1) := by decide +kernel
theorem dX1_isClosed_47 : decode cX1_isClosed 47 = .ok (.aload_n 0, 1) := by decide +kernel
theorem dX1_isClosed_48 : decode cX1_isClosed 48 = .ok (.getfield 21, 3) := by decide +kernel
theorem dX1_isClosed_51 : decode cX1_isClosed 51 = .ok (.iload_n 2, 1) := by decide +kernel
theorem dX1_isClosed_52 : decode cX1_isClosed 52 = .ok (.laload, 1) := by decide +kernel
theorem dX1_isClosed_53 : decode cX1_isClosed 53 = .ok (.ladd, 1) := by decide +kernel
theorem dX1_isClosed_54 : decode cX1_isClosed 54 = .ok (.lcmp, 1) := by decide +kernel
theorem dX1_isClosed_55 : decode cX1_isClosed 55 = .ok (.ifCond .le 5, 3) := by decide +kernel
theorem dX1_isClosed_58 : decode cX1_isClosed 58 = .ok (.iconst 0, 1) := by decide +kernel
theorem dX1_isClosed_59 : decode cX1_isClosed 59 = .ok (.ireturn, 1) := by decide +kernel
theorem dX1_isClosed_60 : decode cX1_isClosed 60 = .ok (.iinc 2 1, 3) := by decide +kernel
theorem dX1_isClosed_63 : decode cX1_isClosed 63 = .ok (.goto (-38), 3) := by decide +kernel
theorem dX1_isClosed_66 : decode cX1_isClosed 66 = .ok (.iinc 1 1, 3) := by decide +kernel
theorem dX1_isClosed_69 : decode cX1_isClosed 69 = .ok (.goto (-55), 3) := by decide +kernel
theorem dX1_isClosed_72 : decode cX1_isClosed 72 = .ok (.iconst 1, 1) := by decide +kernel
theorem dX1_isClosed_73 : decode cX1_isClosed 73 = .ok (.ireturn, 1) := by decide +kernel
theorem dX2_init_0 : decode cX2_init 0 = .ok (.aload_n 0, 1) := by decide +kernel
theorem dX2_init_1 : decode cX2_init 1 = .ok (.iload_n 1, 1) := by decide +kernel
theorem dX2_init_2 : decode cX2_init 2 = .ok (.iload_n 2, 1) := by decide +kernel
theorem dX2_init_3 : decode cX2_init 3 = .ok (.iload_n 3, 1) := by decide +kernel
theorem dX2_init_4 : decode cX2_init 4 = .ok (.aload 4, 2) := by decide +kernel
theorem dX2_init_6 : decode cX2_init 6 = .ok (.invokespecial 3, 3) := by decide +kernel
theorem dX2_init_9 : decode cX2_init 9 = .ok (.return_, 1) := by decide +kernel
theorem dX2_kind_0 : decode cX2_kind 0 = .ok (.iconst 3, 1) := by decide +kernel
theorem dX2_kind_1 : decode cX2_kind 1 = .ok (.ireturn, 1) := by decide +kernel
theorem dX2_asked_0 : decode cX2_asked 0 = .ok (.aload_n 2, 1) := by decide +kernel
theorem dX2_asked_1 : decode cX2_asked 1 = .ok (.iconst 3, 1) := by decide +kernel
theorem dX2_asked_2 : decode cX2_asked 2 = .ok (.invokevirtual 9, 3) := by decide +kernel
theorem dX2_asked_5 : decode cX2_asked 5 = .ok (.iload_n 1, 1) := by decide +kernel
theorem dX2_asked_6 : decode cX2_asked 6 = .ok (.aload_n 0, 1) := by decide +kernel
theorem dX2_asked_7 : decode cX2_asked 7 = .ok (.getfield 15, 3) := by decide +kernel
theorem dX2_asked_10 : decode cX2_asked 10 = .ok (.if_icmp .gt 7, 3) := by decide +kernel
theorem dX2_asked_13 : decode cX2_asked 13 = .ok (.lconst 0, 1) := by decide +kernel
theorem dX2_asked_14 : decode cX2_asked 14 = .ok (.goto 16, 3) := by decide +kernel
theorem dX2_asked_17 : decode cX2_asked 17 = .ok (.aload_n 0, 1) := by decide +kernel
theorem dX2_asked_18 : decode cX2_asked 18 = .ok (.getfield 21, 3) := by decide +kernel
theorem dX2_asked_21 : decode cX2_asked 21 = .ok (.i2l, 1) := by decide +kernel
theorem dX2_asked_22 : decode cX2_asked 22 = .ok (.iload_n 1, 1) := by decide +kernel
theorem dX2_asked_23 : decode cX2_asked 23 = .ok (.aload_n 0, 1) := by decide +kernel
theorem dX2_asked_24 : decode cX2_asked 24 = .ok (.getfield 15, 3) := by decide +kernel
theorem dX2_asked_27 : decode cX2_asked 27 = .ok (.isub, 1) := by decide +kernel
theorem dX2_asked_28 : decode cX2_asked 28 = .ok (.i2l, 1) := by decide +kernel
theorem dX2_asked_29 : decode cX2_asked 29 = .ok (.lmul, 1) := by decide +kernel
theorem dX2_asked_30 : decode cX2_asked 30 = .ok (.lreturn, 1) := by decide +kernel
theorem dX3_init_0 : decode cX3_init 0 = .ok (.aload_n 0, 1) := by decide +kernel
theorem dX3_init_1 : decode cX3_init 1 = .ok (.invokespecial 3, 3) := by decide +kernel
theorem dX3_init_4 : decode cX3_init 4 = .ok (.aload_n 0, 1) := by decide +kernel
theorem dX3_init_5 : decode cX3_init 5 = .ok (.sipush 600, 3) := by decide +kernel
theorem dX3_init_8 : decode cX3_init 8 = .ok (.newarray .long, 2) := by decide +kernel
theorem dX3_init_10 : decode cX3_init 10 = .ok (.putfield 11, 3) := by decide +kernel
theorem dX3_init_13 : decode cX3_init 13 = .ok (.aload_n 0, 1) := by decide +kernel
theorem dX3_init_14 : decode cX3_init 14 = .ok (.sipush 600, 3) := by decide +kernel
theorem dX3_init_17 : decode cX3_init 17 = .ok (.newarray .long, 2) := by decide +kernel
theorem dX3_init_19 : decode cX3_init 19 = .ok (.putfield 15, 3) := by decide +kernel
theorem dX3_init_22 : decode cX3_init 22 = .ok (.aload_n 0, 1) := by decide +kernel
theorem dX3_init_23 : decode cX3_init 23 = .ok (.sipush 600, 3) := by decide +kernel
theorem dX3_init_26 : decode cX3_init 26 = .ok (.newarray .long, 2) := by decide +kernel
theorem dX3_init_28 : decode cX3_init 28 = .ok (.putfield 18, 3) := by decide +kernel
theorem dX3_init_31 : decode cX3_init 31 = .ok (.return_, 1) := by decide +kernel
theorem dX3_fromRow_0 : decode cX3_fromRow 0 = .ok (.iload_n 2, 1) := by decide +kernel
theorem dX3_fromRow_1 : decode cX3_fromRow 1 = .ok (.iload_n 3, 1) := by decide +kernel
theorem dX3_fromRow_2 : decode cX3_fromRow 2 = .ok (.isub, 1) := by decide +kernel
theorem dX3_fromRow_3 : decode cX3_fromRow 3 = .ok (.istore 5, 2) := by decide +kernel
theorem dX3_fromRow_5 : decode cX3_fromRow 5 = .ok (.iload_n 3, 1) := by decide +kernel
theorem dX3_fromRow_6 : decode cX3_fromRow 6 = .ok (.iconst 1, 1) := by decide +kernel
theorem dX3_fromRow_7 : decode cX3_fromRow 7 = .ok (.if_icmp .lt 23, 3) := by decide +kernel
theorem dX3_fromRow_10 : decode cX3_fromRow 10 = .ok (.iload 5, 2) := by decide +kernel
theorem dX3_fromRow_12 : decode cX3_fromRow 12 = .ok (.ifCond .lt 18, 3) := by decide +kernel
theorem dX3_fromRow_15 : decode cX3_fromRow 15 = .ok (.iload_n 2, 1) := by decide +kernel
theorem dX3_fromRow_16 : decode cX3_fromRow 16 = .ok (.aload_n 1, 1) := by decide +kernel
theorem dX3_fromRow_17 : decode cX3_fromRow 17 = .ok (.arraylength, 1) := by decide +kernel
theorem dX3_fromRow_18 : decode cX3_fromRow 18 = .ok (.if_icmp .gt 12, 3) := by decide +kernel
theorem dX3_fromRow_21 : decode cX3_fromRow 21 = .ok (.iload_n 2, 1) := by decide +kernel
theorem dX3_fromRow_22 : decode cX3_fromRow 22 = .ok (.iload_n 3, 1) := by decide +kernel
theorem dX3_fromRow_23 : decode cX3_fromRow 23 = .ok (.iadd, 1) := by decide +kernel
theorem dX3_fromRow_24 : decode cX3_fromRow 24 = .ok (.sipush 600, 3) := by decide +kernel
theorem dX3_fromRow_27 : decode cX3_fromRow 27 = .ok (.if_icmp .le 5, 3) := by decide +kernel
theorem dX3_fromRow_30 : decode cX3_fromRow 30 = .ok (.aconst_null, 1) := by decide +kernel
theorem dX3_fromRow_31 : decode cX3_fromRow 31 = .ok (.areturn, 1) := by decide +kernel
theorem dX3_fromRow_32 : decode cX3_fromRow 32 = .ok (.iconst 0, 1) := by decide +kernel
theorem dX3_fromRow_33 : decode cX3_fromRow 33 = .ok (.istore 6, 2) := by decide +kernel
theorem dX3_fromRow_35 : decode cX3_fromRow 35 = .ok (.iload 6, 2) := by decide +kernel
theorem dX3_fromRow_37 : decode cX3_fromRow 37 = .ok (.iload_n 2, 1) := by decide +kernel
theorem dX3_fromRow_38 : decode cX3_fromRow 38 = .ok (.if_icmp .ge 20, 3) := by decide +kernel
theorem dX3_fromRow_41 : decode cX3_fromRow 41 = .ok (.aload_n 0, 1) := by decide +kernel
theorem dX3_fromRow_42 : decode cX3_fromRow 42 = .ok (.getfield 11, 3) := by decide +kernel
theorem dX3_fromRow_45 : decode cX3_fromRow 45 = .ok (.iload 6, 2) := by decide +kernel
theorem dX3_fromRow_47 : decode cX3_fromRow 47 = .ok (.aload_n 1, 1) := by decide +kernel
theorem dX3_fromRow_48 : decode cX3_fromRow 48 = .ok (.iload 6, 2) := by decide +kernel
theorem dX3_fromRow_50 : decode cX3_fromRow 50 = .ok (.laload, 1) := by decide +kernel
theorem dX3_fromRow_51 : decode cX3_fromRow 51 = .ok (.lastore, 1) := by decide +kernel
theorem dX3_fromRow_52 : decode cX3_fromRow 52 = .ok (.iinc 6 1, 3) := by decide +kernel
theorem dX3_fromRow_55 : decode cX3_fromRow 55 = .ok (.goto (-20), 3) := by decide +kernel
theorem dX3_fromRow_58 : decode cX3_fromRow 58 = .ok (.iload_n 2, 1) := by decide +kernel
theorem dX3_fromRow_59 : decode cX3_fromRow 59 = .ok (.istore 6, 2) := by decide +kernel
theorem dX3_fromRow_61 : decode cX3_fromRow 61 = .ok (.iload 6, 2) := by decide +kernel
theorem dX3_fromRow_63 : decode cX3_fromRow 63 = .ok (.iload_n 2, 1) := by decide +kernel
theorem dX3_fromRow_64 : decode cX3_fromRow 64 = .ok (.iload_n 3, 1) := by decide +kernel
theorem dX3_fromRow_65 : decode cX3_fromRow 65 = .ok (.iadd, 1) := by decide +kernel
theorem dX3_fromRow_66 : decode cX3_fromRow 66 = .ok (.if_icmp .ge 29, 3) := by decide +kernel
theorem dX3_fromRow_69 : decode cX3_fromRow 69 = .ok (.aload_n 0, 1) := by decide +kernel
theorem dX3_fromRow_70 : decode cX3_fromRow 70 = .ok (.getfield 11, 3) := by decide +kernel
theorem dX3_fromRow_73 : decode cX3_fromRow 73 = .ok (.iload 6, 2) := by decide +kernel
theorem dX3_fromRow_75 : decode cX3_fromRow 75 = .ok (.aload_n 0, 1) := by decide +kernel
theorem dX3_fromRow_76 : decode cX3_fromRow 76 = .ok (.getfield 11, 3) := by decide +kernel
theorem dX3_fromRow_79 : decode cX3_fromRow 79 = .ok (.iload 6, 2) := by decide +kernel
theorem dX3_fromRow_81 : decode cX3_fromRow 81 = .ok (.iload_n 3, 1) := by decide +kernel
theorem dX3_fromRow_82 : decode cX3_fromRow 82 = .ok (.isub, 1) := by decide +kernel
theorem dX3_fromRow_83 : decode cX3_fromRow 83 = .ok (.laload, 1) := by decide +kernel
theorem dX3_fromRow_84 : decode cX3_fromRow 84 = .ok (.iload 4, 2) := by decide +kernel
theorem dX3_fromRow_86 : decode cX3_fromRow 86 = .ok (.i2l, 1) := by decide +kernel
theorem dX3_fromRow_87 : decode cX3_fromRow 87 = .ok (.ladd, 1) := by decide +kernel
theorem dX3_fromRow_88 : decode cX3_fromRow 88 = .ok (.lastore, 1) := by decide +kernel
theorem dX3_fromRow_89 : decode cX3_fromRow 89 = .ok (.iinc 6 1, 3) := by decide +kernel
theorem dX3_fromRow_92 : decode cX3_fromRow 92 = .ok (.goto (-31), 3) := by decide +kernel
theorem dX3_fromRow_95 : decode cX3_fromRow 95 = .ok (.aload_n 0, 1) := by decide +kernel
theorem dX3_fromRow_96 : decode cX3_fromRow 96 = .ok (.iload 5, 2) := by decide +kernel
theorem dX3_fromRow_98 : decode cX3_fromRow 98 = .ok (.iload_n 3, 1) := by decide +kernel
theorem dX3_fromRow_99 : decode cX3_fromRow 99 = .ok (.invokevirtual 21, 3) := by decide +kernel
theorem dX3_fromRow_102 : decode cX3_fromRow 102 = .ok (.areturn, 1) := by decide +kernel
theorem dX3_straight_0 : decode cX3_straight 0 = .ok (.aload_n 0, 1) := by decide +kernel
theorem dX3_straight_1 : decode cX3_straight 1 = .ok (.getfield 11, 3) := by decide +kernel
theorem dX3_straight_4 : decode cX3_straight 4 = .ok (.iconst 0, 1) := by decide +kernel
theorem dX3_straight_5 : decode cX3_straight 5 = .ok (.lconst 0, 1) := by decide +kernel
theorem dX3_straight_6 : decode cX3_straight 6 = .ok (.lastore, 1) := by decide +kernel
theorem dX3_straight_7 : decode cX3_straight 7 = .ok (.aload_n 0, 1) := by decide +kernel
theorem dX3_straight_8 : decode cX3_straight 8 = .ok (.getfield 11, 3) := by decide +kernel
theorem dX3_straight_11 : decode cX3_straight 11 = .ok (.iconst 1, 1) := by decide +kernel
theorem dX3_straight_12 : decode cX3_straight 12 = .ok (.iload_n 1, 1) := by decide +kernel
theorem dX3_straight_13 : decode cX3_straight 13 = .ok (.i2l, 1) := by decide +kernel
theorem dX3_straight_14 : decode cX3_straight 14 = .ok (.lastore, 1) := by decide +kernel
theorem dX3_straight_15 : decode cX3_straight 15 = .ok (.aload_n 0, 1) := by decide +kernel
theorem dX3_straight_16 : decode cX3_straight 16 = .ok (.iconst 0, 1) := by decide +kernel
theorem dX3_straight_17 : decode cX3_straight 17 = .ok (.iconst 1, 1) := by decide +kernel
theorem dX3_straight_18 : decode cX3_straight 18 = .ok (.invokevirtual 21, 3) := by decide +kernel
theorem dX3_straight_21 : decode cX3_straight 21 = .ok (.areturn, 1) := by decide +kernel
theorem dX3_multiplied_0 : decode cX3_multiplied 0 = .ok (.aload_n 1, 1) := by decide +kernel
theorem dX3_multiplied_1 : decode cX3_multiplied 1 = .ok (.getfield 25, 3) := by decide +kernel
theorem dX3_multiplied_4 : decode cX3_multiplied 4 = .ok (.iconst 2, 1) := by decide +kernel
theorem dX3_multiplied_5 : decode cX3_multiplied 5 = .ok (.aload_n 1, 1) := by decide +kernel
theorem dX3_multiplied_6 : decode cX3_multiplied 6 = .ok (.getfield 31, 3) := by decide +kernel
theorem dX3_multiplied_9 : decode cX3_multiplied 9 = .ok (.imul, 1) := by decide +kernel
theorem dX3_multiplied_10 : decode cX3_multiplied 10 = .ok (.iadd, 1) := by decide +kernel
theorem dX3_multiplied_11 : decode cX3_multiplied 11 = .ok (.sipush 600, 3) := by decide +kernel
theorem dX3_multiplied_14 : decode cX3_multiplied 14 = .ok (.invokestatic 34, 3) := by decide +kernel
theorem dX3_multiplied_17 : decode cX3_multiplied 17 = .ok (.istore_n 3, 1) := by decide +kernel
theorem dX3_multiplied_18 : decode cX3_multiplied 18 = .ok (.iconst 0, 1) := by decide +kernel
theorem dX3_multiplied_19 : decode cX3_multiplied 19 = .ok (.istore 4, 2) := by decide +kernel
theorem dX3_multiplied_21 : decode cX3_multiplied 21 = .ok (.iload 4, 2) := by decide +kernel
theorem dX3_multiplied_23 : decode cX3_multiplied 23 = .ok (.iload_n 3, 1) := by decide +kernel
theorem dX3_multiplied_24 : decode cX3_multiplied 24 = .ok (.if_icmp .ge 25, 3) := by decide +kernel
theorem dX3_multiplied_27 : decode cX3_multiplied 27 = .ok (.aload_n 0, 1) := by decide +kernel
theorem dX3_multiplied_28 : decode cX3_multiplied 28 = .ok (.getfield 11, 3) := by decide +kernel
theorem dX3_multiplied_31 : decode cX3_multiplied 31 = .ok (.iload 4, 2) := by decide +kernel
theorem dX3_multiplied_33 : decode cX3_multiplied 33 = .ok (.aload_n 1, 1) := by decide +kernel
theorem dX3_multiplied_34 : decode cX3_multiplied 34 = .ok (.iload 4, 2) := by decide +kernel
theorem dX3_multiplied_36 : decode cX3_multiplied 36 = .ok (.invokevirtual 40, 3) := by decide +kernel
theorem dX3_multiplied_39 : decode cX3_multiplied 39 = .ok (.iload_n 2, 1) := by decide +kernel
theorem dX3_multiplied_40 : decode cX3_multiplied 40 = .ok (.i2l, 1) := by decide +kernel
theorem dX3_multiplied_41 : decode cX3_multiplied 41 = .ok (.lmul, 1) := by decide +kernel
theorem dX3_multiplied_42 : decode cX3_multiplied 42 = .ok (.lastore, 1) := by decide +kernel
theorem dX3_multiplied_43 : decode cX3_multiplied 43 = .ok (.iinc 4 1, 3) := by decide +kernel
theorem dX3_multiplied_46 : decode cX3_multiplied 46 = .ok (.goto (-25), 3) := by decide +kernel
theorem dX3_multiplied_49 : decode cX3_multiplied 49 = .ok (.aload_n 0, 1) := by decide +kernel
theorem dX3_multiplied_50 : decode cX3_multiplied 50 = .ok (.aload_n 1, 1) := by decide +kernel
theorem dX3_multiplied_51 : decode cX3_multiplied 51 = .ok (.getfield 25, 3) := by decide +kernel
theorem dX3_multiplied_54 : decode cX3_multiplied 54 = .ok (.aload_n 1, 1) := by decide +kernel
theorem dX3_multiplied_55 : decode cX3_multiplied 55 = .ok (.getfield 31, 3) := by decide +kernel
theorem dX3_multiplied_58 : decode cX3_multiplied 58 = .ok (.invokevirtual 21, 3) := by decide +kernel
theorem dX3_multiplied_61 : decode cX3_multiplied 61 = .ok (.areturn, 1) := by decide +kernel
theorem dX3_delayed_0 : decode cX3_delayed 0 = .ok (.iload_n 2, 1) := by decide +kernel
theorem dX3_delayed_1 : decode cX3_delayed 1 = .ok (.aload_n 1, 1) := by decide +kernel
theorem dX3_delayed_2 : decode cX3_delayed 2 = .ok (.getfield 25, 3) := by decide +kernel
theorem dX3_delayed_5 : decode cX3_delayed 5 = .ok (.iadd, 1) := by decide +kernel
theorem dX3_delayed_6 : decode cX3_delayed 6 = .ok (.iconst 2, 1) := by decide +kernel
theorem dX3_delayed_7 : decode cX3_delayed 7 = .ok (.aload_n 1, 1) := by decide +kernel
theorem dX3_delayed_8 : decode cX3_delayed 8 = .ok (.getfield 31, 3) := by decide +kernel
theorem dX3_delayed_11 : decode cX3_delayed 11 = .ok (.imul, 1) := by decide +kernel
theorem dX3_delayed_12 : decode cX3_delayed 12 = .ok (.iadd, 1) := by decide +kernel
theorem dX3_delayed_13 : decode cX3_delayed 13 = .ok (.sipush 600, 3) := by decide +kernel
theorem dX3_delayed_16 : decode cX3_delayed 16 = .ok (.invokestatic 34, 3) := by decide +kernel
theorem dX3_delayed_19 : decode cX3_delayed 19 = .ok (.istore_n 3, 1) := by decide +kernel
theorem dX3_delayed_20 : decode cX3_delayed 20 = .ok (.iconst 0, 1) := by decide +kernel
theorem dX3_delayed_21 : decode cX3_delayed 21 = .ok (.istore 4, 2) := by decide +kernel
theorem dX3_delayed_23 : decode cX3_delayed 23 = .ok (.iload 4, 2) := by decide +kernel
theorem dX3_delayed_25 : decode cX3_delayed 25 = .ok (.iload_n 3, 1) := by decide +kernel
theorem dX3_delayed_26 : decode cX3_delayed 26 = .ok (.if_icmp .ge 34, 3) := by decide +kernel
theorem dX3_delayed_29 : decode cX3_delayed 29 = .ok (.aload_n 0, 1) := by decide +kernel
theorem dX3_delayed_30 : decode cX3_delayed 30 = .ok (.getfield 11, 3) := by decide +kernel
theorem dX3_delayed_33 : decode cX3_delayed 33 = .ok (.iload 4, 2) := by decide +kernel
theorem dX3_delayed_35 : decode cX3_delayed 35 = .ok (.iload 4, 2) := by decide +kernel
theorem dX3_delayed_37 : decode cX3_delayed 37 = .ok (.iload_n 2, 1) := by decide +kernel
theorem dX3_delayed_38 : decode cX3_delayed 38 = .ok (.if_icmp .ge 7, 3) := by decide +kernel
theorem dX3_delayed_41 : decode cX3_delayed 41 = .ok (.lconst 0, 1) := by decide +kernel
theorem dX3_delayed_42 : decode cX3_delayed 42 = .ok (.goto 11, 3) := by decide +kernel
theorem dX3_delayed_45 : decode cX3_delayed 45 = .ok (.aload_n 1, 1) := by decide +kernel
theorem dX3_delayed_46 : decode cX3_delayed 46 = .ok (.iload 4, 2) := by decide +kernel
theorem dX3_delayed_48 : decode cX3_delayed 48 = .ok (.iload_n 2, 1) := by decide +kernel
theorem dX3_delayed_49 : decode cX3_delayed 49 = .ok (.isub, 1) := by decide +kernel
theorem dX3_delayed_50 : decode cX3_delayed 50 = .ok (.invokevirtual 40, 3) := by decide +kernel
theorem dX3_delayed_53 : decode cX3_delayed 53 = .ok (.lastore, 1) := by decide +kernel
theorem dX3_delayed_54 : decode cX3_delayed 54 = .ok (.iinc 4 1, 3) := by decide +kernel
theorem dX3_delayed_57 : decode cX3_delayed 57 = .ok (.goto (-34), 3) := by decide +kernel
theorem dX3_delayed_60 : decode cX3_delayed 60 = .ok (.aload_n 0, 1) := by decide +kernel
theorem dX3_delayed_61 : decode cX3_delayed 61 = .ok (.iload_n 2, 1) := by decide +kernel
theorem dX3_delayed_62 : decode cX3_delayed 62 = .ok (.aload_n 1, 1) := by decide +kernel
theorem dX3_delayed_63 : decode cX3_delayed 63 = .ok (.getfield 25, 3) := by decide +kernel
theorem dX3_delayed_66 : decode cX3_delayed 66 = .ok (.iadd, 1) := by decide +kernel
theorem dX3_delayed_67 : decode cX3_delayed 67 = .ok (.aload_n 1, 1) := by decide +kernel
theorem dX3_delayed_68 : decode cX3_delayed 68 = .ok (.getfield 31, 3) := by decide +kernel
theorem dX3_delayed_71 : decode cX3_delayed 71 = .ok (.invokevirtual 21, 3) := by decide +kernel
theorem dX3_delayed_74 : decode cX3_delayed 74 = .ok (.areturn, 1) := by decide +kernel
theorem dX3_fromBoth_0 : decode cX3_fromBoth 0 = .ok (.iload_n 1, 1) := by decide +kernel
theorem dX3_fromBoth_1 : decode cX3_fromBoth 1 = .ok (.iconst 4, 1) := by decide +kernel
theorem dX3_fromBoth_2 : decode cX3_fromBoth 2 = .ok (.if_icmp .ne 24, 3) := by decide +kernel
theorem dX3_fromBoth_5 : decode cX3_fromBoth 5 = .ok (.sipush 200, 3) := by decide +kernel
theorem dX3_fromBoth_8 : decode cX3_fromBoth 8 = .ok (.aload_n 2, 1) := by decide +kernel
theorem dX3_fromBoth_9 : decode cX3_fromBoth 9 = .ok (.getfield 25, 3) := by decide +kernel
theorem dX3_fromBoth_12 : decode cX3_fromBoth 12 = .ok (.aload_n 3, 1) := by decide +kernel
theorem dX3_fromBoth_13 : decode cX3_fromBoth 13 = .ok (.getfield 25, 3) := by decide +kernel
theorem dX3_fromBoth_16 : decode cX3_fromBoth 16 = .ok (.iadd, 1) := by decide +kernel
theorem dX3_fromBoth_17 : decode cX3_fromBoth 17 = .ok (.iload 4, 2) := by decide +kernel
theorem dX3_fromBoth_19 : decode cX3_fromBoth 19 = .ok (.iadd, 1) := by decide +kernel
theorem dX3_fromBoth_20 : decode cX3_fromBoth 20 = .ok (.invokestatic 44, 3) := by decide +kernel
theorem dX3_fromBoth_23 : decode cX3_fromBoth 23 = .ok (.goto 6, 3) := by decide +kernel
theorem dX3_fromBoth_26 : decode cX3_fromBoth 26 = .ok (.sipush 200, 3) := by decide +kernel
theorem dX3_fromBoth_29 : decode cX3_fromBoth 29 = .ok (.istore 5, 2) := by decide +kernel
theorem dX3_fromBoth_31 : decode cX3_fromBoth 31 = .ok (.iload 5, 2) := by decide +kernel
theorem dX3_fromBoth_33 : decode cX3_fromBoth 33 = .ok (.iconst 2, 1) := by decide +kernel
theorem dX3_fromBoth_34 : decode cX3_fromBoth 34 = .ok (.iload 4, 2) := by decide +kernel
theorem dX3_fromBoth_36 : decode cX3_fromBoth 36 = .ok (.imul, 1) := by decide +kernel
theorem dX3_fromBoth_37 : decode cX3_fromBoth 37 = .ok (.iadd, 1) := by decide +kernel
theorem dX3_fromBoth_38 : decode cX3_fromBoth 38 = .ok (.istore 6, 2) := by decide +kernel
theorem dX3_fromBoth_40 : decode cX3_fromBoth 40 = .ok (.iload 4, 2) := by decide +kernel
theorem dX3_fromBoth_42 : decode cX3_fromBoth 42 = .ok (.iconst 1, 1) := by decide +kernel
theorem dX3_fromBoth_43 : decode cX3_fromBoth 43 = .ok (.if_icmp .lt 11, 3) := by decide +kernel
theorem dX3_fromBoth_46 : decode cX3_fromBoth 46 = .ok (.iload 6, 2) := by decide +kernel
theorem dX3_fromBoth_48 : decode cX3_fromBoth 48 = .ok (.sipush 600, 3) := by decide +kernel
theorem dX3_fromBoth_51 : decode cX3_fromBoth 51 = .ok (.if_icmp .le 5, 3) := by decide +kernel
theorem dX3_fromBoth_54 : decode cX3_fromBoth 54 = .ok (.aconst_null, 1) := by decide +kernel
theorem dX3_fromBoth_55 : decode cX3_fromBoth 55 = .ok (.areturn, 1) := by decide +kernel
theorem dX3_fromBoth_56 : decode cX3_fromBoth 56 = .ok (.aload_n 2, 1) := by decide +kernel
theorem dX3_fromBoth_57 : decode cX3_fromBoth 57 = .ok (.aload_n 0, 1) := by decide +kernel
theorem dX3_fromBoth_58 : decode cX3_fromBoth 58 = .ok (.getfield 15, 3) := by decide +kernel
theorem dX3_fromBoth_61 : decode cX3_fromBoth 61 = .ok (.invokestatic 47, 3) := by decide +kernel
theorem dX3_fromBoth_64 : decode cX3_fromBoth 64 = .ok (.aload_n 3, 1) := by decide +kernel
theorem dX3_fromBoth_65 : decode cX3_fromBoth 65 = .ok (.aload_n 0, 1) := by decide +kernel
theorem dX3_fromBoth_66 : decode cX3_fromBoth 66 = .ok (.getfield 18, 3) := by decide +kernel
theorem dX3_fromBoth_69 : decode cX3_fromBoth 69 = .ok (.invokestatic 47, 3) := by decide +kernel
theorem dX3_fromBoth_72 : decode cX3_fromBoth 72 = .ok (.iload_n 1, 1) := by decide +kernel
theorem dX3_fromBoth_73 : decode cX3_fromBoth 73 = .ok (.tableswitch 104 0 5 #[39, 39, 39, 49, 58, 81], 39) := by decide +kernel
theorem dX3_fromBoth_112 : decode cX3_fromBoth 112 = .ok (.aload_n 0, 1) := by decide +kernel
theorem dX3_fromBoth_113 : decode cX3_fromBoth 113 = .ok (.iload_n 1, 1) := by decide +kernel
theorem dX3_fromBoth_114 : decode cX3_fromBoth 114 = .ok (.iload 6, 2) := by decide +kernel
theorem dX3_fromBoth_116 : decode cX3_fromBoth 116 = .ok (.invokevirtual 51, 3) := by decide +kernel
theorem dX3_fromBoth_119 : decode cX3_fromBoth 119 = .ok (.goto 60, 3) := by decide +kernel
theorem dX3_fromBoth_122 : decode cX3_fromBoth 122 = .ok (.aload_n 0, 1) := by decide +kernel
theorem dX3_fromBoth_123 : decode cX3_fromBoth 123 = .ok (.iload 6, 2) := by decide +kernel
theorem dX3_fromBoth_125 : decode cX3_fromBoth 125 = .ok (.invokevirtual 55, 3) := by decide +kernel
theorem dX3_fromBoth_128 : decode cX3_fromBoth 128 = .ok (.goto 51, 3) := by decide +kernel
theorem dX3_fromBoth_131 : decode cX3_fromBoth 131 = .ok (.aload_n 0, 1) := by decide +kernel
theorem dX3_fromBoth_132 : decode cX3_fromBoth 132 = .ok (.iload 6, 2) := by decide +kernel
theorem dX3_fromBoth_134 : decode cX3_fromBoth 134 = .ok (.aload_n 2, 1) := by decide +kernel
theorem dX3_fromBoth_135 : decode cX3_fromBoth 135 = .ok (.getfield 25, 3) := by decide +kernel
theorem dX3_fromBoth_138 : decode cX3_fromBoth 138 = .ok (.iload 4, 2) := by decide +kernel
theorem dX3_fromBoth_140 : decode cX3_fromBoth 140 = .ok (.iadd, 1) := by decide +kernel
theorem dX3_fromBoth_141 : decode cX3_fromBoth 141 = .ok (.aload_n 3, 1) := by decide +kernel
theorem dX3_fromBoth_142 : decode cX3_fromBoth 142 = .ok (.getfield 25, 3) := by decide +kernel
theorem dX3_fromBoth_145 : decode cX3_fromBoth 145 = .ok (.iload 4, 2) := by decide +kernel
theorem dX3_fromBoth_147 : decode cX3_fromBoth 147 = .ok (.iadd, 1) := by decide +kernel
theorem dX3_fromBoth_148 : decode cX3_fromBoth 148 = .ok (.invokevirtual 59, 3) := by decide +kernel
theorem dX3_fromBoth_151 : decode cX3_fromBoth 151 = .ok (.goto 28, 3) := by decide +kernel
theorem dX3_fromBoth_154 : decode cX3_fromBoth 154 = .ok (.aload_n 0, 1) := by decide +kernel
theorem dX3_fromBoth_155 : decode cX3_fromBoth 155 = .ok (.iload 6, 2) := by decide +kernel
theorem dX3_fromBoth_157 : decode cX3_fromBoth 157 = .ok (.aload_n 2, 1) := by decide +kernel
theorem dX3_fromBoth_158 : decode cX3_fromBoth 158 = .ok (.getfield 25, 3) := by decide +kernel
theorem dX3_fromBoth_161 : decode cX3_fromBoth 161 = .ok (.aload_n 3, 1) := by decide +kernel
theorem dX3_fromBoth_162 : decode cX3_fromBoth 162 = .ok (.getfield 25, 3) := by decide +kernel
theorem dX3_fromBoth_165 : decode cX3_fromBoth 165 = .ok (.invokestatic 44, 3) := by decide +kernel
theorem dX3_fromBoth_168 : decode cX3_fromBoth 168 = .ok (.iload 4, 2) := by decide +kernel
theorem dX3_fromBoth_170 : decode cX3_fromBoth 170 = .ok (.iadd, 1) := by decide +kernel
theorem dX3_fromBoth_171 : decode cX3_fromBoth 171 = .ok (.invokevirtual 63, 3) := by decide +kernel
theorem dX3_fromBoth_174 : decode cX3_fromBoth 174 = .ok (.goto 5, 3) := by decide +kernel
theorem dX3_fromBoth_177 : decode cX3_fromBoth 177 = .ok (.aconst_null, 1) := by decide +kernel
theorem dX3_fromBoth_178 : decode cX3_fromBoth 178 = .ok (.areturn, 1) := by decide +kernel
theorem dX3_fromBoth_179 : decode cX3_fromBoth 179 = .ok (.aload_n 0, 1) := by decide +kernel
theorem dX3_fromBoth_180 : decode cX3_fromBoth 180 = .ok (.iload 5, 2) := by decide +kernel
theorem dX3_fromBoth_182 : decode cX3_fromBoth 182 = .ok (.iload 4, 2) := by decide +kernel
theorem dX3_fromBoth_184 : decode cX3_fromBoth 184 = .ok (.iload_n 1, 1) := by decide +kernel
theorem dX3_fromBoth_185 : decode cX3_fromBoth 185 = .ok (.aload_n 2, 1) := by decide +kernel
theorem dX3_fromBoth_186 : decode cX3_fromBoth 186 = .ok (.iload 4, 2) := by decide +kernel
theorem dX3_fromBoth_188 : decode cX3_fromBoth 188 = .ok (.invokevirtual 66, 3) := by decide +kernel
theorem dX3_fromBoth_191 : decode cX3_fromBoth 191 = .ok (.aload_n 3, 1) := by decide +kernel
theorem dX3_fromBoth_192 : decode cX3_fromBoth 192 = .ok (.iload 4, 2) := by decide +kernel
theorem dX3_fromBoth_194 : decode cX3_fromBoth 194 = .ok (.invokevirtual 66, 3) := by decide +kernel
theorem dX3_fromBoth_197 : decode cX3_fromBoth 197 = .ok (.invokestatic 69, 3) := by decide +kernel
theorem dX3_fromBoth_200 : decode cX3_fromBoth 200 = .ok (.invokevirtual 73, 3) := by decide +kernel
theorem dX3_fromBoth_203 : decode cX3_fromBoth 203 = .ok (.ifCond .ne 5, 3) := by decide +kernel
theorem dX3_fromBoth_206 : decode cX3_fromBoth 206 = .ok (.aconst_null, 1) := by decide +kernel
theorem dX3_fromBoth_207 : decode cX3_fromBoth 207 = .ok (.areturn, 1) := by decide +kernel
theorem dX3_fromBoth_208 : decode cX3_fromBoth 208 = .ok (.aload_n 0, 1) := by decide +kernel
theorem dX3_fromBoth_209 : decode cX3_fromBoth 209 = .ok (.iload 5, 2) := by decide +kernel
theorem dX3_fromBoth_211 : decode cX3_fromBoth 211 = .ok (.iload 4, 2) := by decide +kernel
theorem dX3_fromBoth_213 : decode cX3_fromBoth 213 = .ok (.invokevirtual 21, 3) := by decide +kernel
theorem dX3_fromBoth_216 : decode cX3_fromBoth 216 = .ok (.areturn, 1) := by decide +kernel
theorem dX3_gainOf_0 : decode cX3_gainOf 0 = .ok (.iload_n 0, 1) := by decide +kernel
theorem dX3_gainOf_1 : decode cX3_gainOf 1 = .ok (.tableswitch 59 0 5 #[39, 59, 43, 49, 59, 57], 39) := by decide +kernel
theorem dX3_gainOf_40 : decode cX3_gainOf 40 = .ok (.lload_n 1, 1) := by decide +kernel
theorem dX3_gainOf_41 : decode cX3_gainOf 41 = .ok (.lload_n 3, 1) := by decide +kernel
theorem dX3_gainOf_42 : decode cX3_gainOf 42 = .ok (.ladd, 1) := by decide +kernel
theorem dX3_gainOf_43 : decode cX3_gainOf 43 = .ok (.lreturn, 1) := by decide +kernel
theorem dX3_gainOf_44 : decode cX3_gainOf 44 = .ok (.lload_n 1, 1) := by decide +kernel
theorem dX3_gainOf_45 : decode cX3_gainOf 45 = .ok (.lload_n 3, 1) := by decide +kernel
theorem dX3_gainOf_46 : decode cX3_gainOf 46 = .ok (.invokestatic 77, 3) := by decide +kernel
theorem dX3_gainOf_49 : decode cX3_gainOf 49 = .ok (.lreturn, 1) := by decide +kernel
theorem dX3_gainOf_50 : decode cX3_gainOf 50 = .ok (.lconst 0, 1) := by decide +kernel
theorem dX3_gainOf_51 : decode cX3_gainOf 51 = .ok (.lload_n 1, 1) := by decide +kernel
theorem dX3_gainOf_52 : decode cX3_gainOf 52 = .ok (.lload_n 3, 1) := by decide +kernel
theorem dX3_gainOf_53 : decode cX3_gainOf 53 = .ok (.lsub, 1) := by decide +kernel
theorem dX3_gainOf_54 : decode cX3_gainOf 54 = .ok (.invokestatic 77, 3) := by decide +kernel
theorem dX3_gainOf_57 : decode cX3_gainOf 57 = .ok (.lreturn, 1) := by decide +kernel
theorem dX3_gainOf_58 : decode cX3_gainOf 58 = .ok (.lload_n 1, 1) := by decide +kernel
theorem dX3_gainOf_59 : decode cX3_gainOf 59 = .ok (.lreturn, 1) := by decide +kernel
theorem dX3_gainOf_60 : decode cX3_gainOf 60 = .ok (.lload_n 1, 1) := by decide +kernel
theorem dX3_gainOf_61 : decode cX3_gainOf 61 = .ok (.lload_n 3, 1) := by decide +kernel
theorem dX3_gainOf_62 : decode cX3_gainOf 62 = .ok (.invokestatic 80, 3) := by decide +kernel
theorem dX3_gainOf_65 : decode cX3_gainOf 65 = .ok (.lreturn, 1) := by decide +kernel
theorem dX3_spread_0 : decode cX3_spread 0 = .ok (.iconst 0, 1) := by decide +kernel
theorem dX3_spread_1 : decode cX3_spread 1 = .ok (.istore_n 2, 1) := by decide +kernel
theorem dX3_spread_2 : decode cX3_spread 2 = .ok (.iload_n 2, 1) := by decide +kernel
theorem dX3_spread_3 : decode cX3_spread 3 = .ok (.aload_n 1, 1) := by decide +kernel
theorem dX3_spread_4 : decode cX3_spread 4 = .ok (.arraylength, 1) := by decide +kernel
theorem dX3_spread_5 : decode cX3_spread 5 = .ok (.if_icmp .ge 17, 3) := by decide +kernel
theorem dX3_spread_8 : decode cX3_spread 8 = .ok (.aload_n 1, 1) := by decide +kernel
theorem dX3_spread_9 : decode cX3_spread 9 = .ok (.iload_n 2, 1) := by decide +kernel
theorem dX3_spread_10 : decode cX3_spread 10 = .ok (.aload_n 0, 1) := by decide +kernel
theorem dX3_spread_11 : decode cX3_spread 11 = .ok (.iload_n 2, 1) := by decide +kernel
theorem dX3_spread_12 : decode cX3_spread 12 = .ok (.invokevirtual 40, 3) := by decide +kernel
theorem dX3_spread_15 : decode cX3_spread 15 = .ok (.lastore, 1) := by decide +kernel
theorem dX3_spread_16 : decode cX3_spread 16 = .ok (.iinc 2 1, 3) := by decide +kernel
theorem dX3_spread_19 : decode cX3_spread 19 = .ok (.goto (-17), 3) := by decide +kernel
theorem dX3_spread_22 : decode cX3_spread 22 = .ok (.return_, 1) := by decide +kernel
theorem dX3_laySideBySide_0 : decode cX3_laySideBySide 0 = .ok (.iconst 0, 1) := by decide +kernel
theorem dX3_laySideBySide_1 : decode cX3_laySideBySide 1 = .ok (.istore_n 3, 1) := by decide +kernel
theorem dX3_laySideBySide_2 : decode cX3_laySideBySide 2 = .ok (.iload_n 3, 1) := by decide +kernel
theorem dX3_laySideBySide_3 : decode cX3_laySideBySide 3 = .ok (.iload_n 2, 1) := by decide +kernel
theorem dX3_laySideBySide_4 : decode cX3_laySideBySide 4 = .ok (.if_icmp .ge 92, 3) := by decide +kernel
theorem dX3_laySideBySide_7 : decode cX3_laySideBySide 7 = .ok (.iload_n 3, 1) := by decide +kernel
theorem dX3_laySideBySide_8 : decode cX3_laySideBySide 8 = .ok (.sipush 600, 3) := by decide +kernel
theorem dX3_laySideBySide_11 : decode cX3_laySideBySide 11 = .ok (.if_icmp .ge 85, 3) := by decide +kernel
theorem dX3_laySideBySide_14 : decode cX3_laySideBySide 14 = .ok (.iload_n 1, 1) := by decide +kernel
theorem dX3_laySideBySide_15 : decode cX3_laySideBySide 15 = .ok (.ifCond .ne 25, 3) := by decide +kernel
theorem dX3_laySideBySide_18 : decode cX3_laySideBySide 18 = .ok (.aload_n 0, 1) := by decide +kernel
theorem dX3_laySideBySide_19 : decode cX3_laySideBySide 19 = .ok (.getfield 11, 3) := by decide +kernel
theorem dX3_laySideBySide_22 : decode cX3_laySideBySide 22 = .ok (.iload_n 3, 1) := by decide +kernel
theorem dX3_laySideBySide_23 : decode cX3_laySideBySide 23 = .ok (.aload_n 0, 1) := by decide +kernel
theorem dX3_laySideBySide_24 : decode cX3_laySideBySide 24 = .ok (.getfield 15, 3) := by decide +kernel
theorem dX3_laySideBySide_27 : decode cX3_laySideBySide 27 = .ok (.iload_n 3, 1) := by decide +kernel
theorem dX3_laySideBySide_28 : decode cX3_laySideBySide 28 = .ok (.laload, 1) := by decide +kernel
theorem dX3_laySideBySide_29 : decode cX3_laySideBySide 29 = .ok (.aload_n 0, 1) := by decide +kernel
theorem dX3_laySideBySide_30 : decode cX3_laySideBySide 30 = .ok (.getfield 18, 3) := by decide +kernel
theorem dX3_laySideBySide_33 : decode cX3_laySideBySide 33 = .ok (.iload_n 3, 1) := by decide +kernel
theorem dX3_laySideBySide_34 : decode cX3_laySideBySide 34 = .ok (.laload, 1) := by decide +kernel
theorem dX3_laySideBySide_35 : decode cX3_laySideBySide 35 = .ok (.ladd, 1) := by decide +kernel
theorem dX3_laySideBySide_36 : decode cX3_laySideBySide 36 = .ok (.lastore, 1) := by decide +kernel
theorem dX3_laySideBySide_37 : decode cX3_laySideBySide 37 = .ok (.goto 53, 3) := by decide +kernel
theorem dX3_laySideBySide_40 : decode cX3_laySideBySide 40 = .ok (.iload_n 1, 1) := by decide +kernel
theorem dX3_laySideBySide_41 : decode cX3_laySideBySide 41 = .ok (.iconst 1, 1) := by decide +kernel
theorem dX3_laySideBySide_42 : decode cX3_laySideBySide 42 = .ok (.if_icmp .ne 27, 3) := by decide +kernel
theorem dX3_laySideBySide_45 : decode cX3_laySideBySide 45 = .ok (.aload_n 0, 1) := by decide +kernel
theorem dX3_laySideBySide_46 : decode cX3_laySideBySide 46 = .ok (.getfield 11, 3) := by decide +kernel
theorem dX3_laySideBySide_49 : decode cX3_laySideBySide 49 = .ok (.iload_n 3, 1) := by decide +kernel
theorem dX3_laySideBySide_50 : decode cX3_laySideBySide 50 = .ok (.aload_n 0, 1) := by decide +kernel
theorem dX3_laySideBySide_51 : decode cX3_laySideBySide 51 = .ok (.getfield 15, 3) := by decide +kernel
theorem dX3_laySideBySide_54 : decode cX3_laySideBySide 54 = .ok (.iload_n 3, 1) := by decide +kernel
theorem dX3_laySideBySide_55 : decode cX3_laySideBySide 55 = .ok (.laload, 1) := by decide +kernel
theorem dX3_laySideBySide_56 : decode cX3_laySideBySide 56 = .ok (.aload_n 0, 1) := by decide +kernel
theorem dX3_laySideBySide_57 : decode cX3_laySideBySide 57 = .ok (.getfield 18, 3) := by decide +kernel
theorem dX3_laySideBySide_60 : decode cX3_laySideBySide 60 = .ok (.iload_n 3, 1) := by decide +kernel
theorem dX3_laySideBySide_61 : decode cX3_laySideBySide 61 = .ok (.laload, 1) := by decide +kernel
theorem dX3_laySideBySide_62 : decode cX3_laySideBySide 62 = .ok (.invokestatic 80, 3) := by decide +kernel
theorem dX3_laySideBySide_65 : decode cX3_laySideBySide 65 = .ok (.lastore, 1) := by decide +kernel
theorem dX3_laySideBySide_66 : decode cX3_laySideBySide 66 = .ok (.goto 24, 3) := by decide +kernel
theorem dX3_laySideBySide_69 : decode cX3_laySideBySide 69 = .ok (.aload_n 0, 1) := by decide +kernel
theorem dX3_laySideBySide_70 : decode cX3_laySideBySide 70 = .ok (.getfield 11, 3) := by decide +kernel
theorem dX3_laySideBySide_73 : decode cX3_laySideBySide 73 = .ok (.iload_n 3, 1) := by decide +kernel
theorem dX3_laySideBySide_74 : decode cX3_laySideBySide 74 = .ok (.aload_n 0, 1) := by decide +kernel
theorem dX3_laySideBySide_75 : decode cX3_laySideBySide 75 = .ok (.getfield 15, 3) := by decide +kernel
theorem dX3_laySideBySide_78 : decode cX3_laySideBySide 78 = .ok (.iload_n 3, 1) := by decide +kernel
theorem dX3_laySideBySide_79 : decode cX3_laySideBySide 79 = .ok (.laload, 1) := by decide +kernel
theorem dX3_laySideBySide_80 : decode cX3_laySideBySide 80 = .ok (.aload_n 0, 1) := by decide +kernel
theorem dX3_laySideBySide_81 : decode cX3_laySideBySide 81 = .ok (.getfield 18, 3) := by decide +kernel
theorem dX3_laySideBySide_84 : decode cX3_laySideBySide 84 = .ok (.iload_n 3, 1) := by decide +kernel
theorem dX3_laySideBySide_85 : decode cX3_laySideBySide 85 = .ok (.laload, 1) := by decide +kernel
theorem dX3_laySideBySide_86 : decode cX3_laySideBySide 86 = .ok (.invokestatic 77, 3) := by decide +kernel
theorem dX3_laySideBySide_89 : decode cX3_laySideBySide 89 = .ok (.lastore, 1) := by decide +kernel
theorem dX3_laySideBySide_90 : decode cX3_laySideBySide 90 = .ok (.iinc 3 1, 3) := by decide +kernel
theorem dX3_laySideBySide_93 : decode cX3_laySideBySide 93 = .ok (.goto (-91), 3) := by decide +kernel
theorem dX3_laySideBySide_96 : decode cX3_laySideBySide 96 = .ok (.return_, 1) := by decide +kernel
theorem dX3_layRest_0 : decode cX3_layRest 0 = .ok (.lconst 0, 1) := by decide +kernel
theorem dX3_layRest_1 : decode cX3_layRest 1 = .ok (.lstore_n 2, 1) := by decide +kernel
theorem dX3_layRest_2 : decode cX3_layRest 2 = .ok (.iconst 0, 1) := by decide +kernel
theorem dX3_layRest_3 : decode cX3_layRest 3 = .ok (.istore 4, 2) := by decide +kernel
theorem dX3_layRest_5 : decode cX3_layRest 5 = .ok (.iload 4, 2) := by decide +kernel
theorem dX3_layRest_7 : decode cX3_layRest 7 = .ok (.iload_n 1, 1) := by decide +kernel
theorem dX3_layRest_8 : decode cX3_layRest 8 = .ok (.if_icmp .ge 45, 3) := by decide +kernel
theorem dX3_layRest_11 : decode cX3_layRest 11 = .ok (.iload 4, 2) := by decide +kernel
theorem dX3_layRest_13 : decode cX3_layRest 13 = .ok (.sipush 600, 3) := by decide +kernel
theorem dX3_layRest_16 : decode cX3_layRest 16 = .ok (.if_icmp .ge 37, 3) := by decide +kernel
theorem dX3_layRest_19 : decode cX3_layRest 19 = .ok (.lload_n 2, 1) := by decide +kernel
theorem dX3_layRest_20 : decode cX3_layRest 20 = .ok (.aload_n 0, 1) := by decide +kernel
theorem dX3_layRest_21 : decode cX3_layRest 21 = .ok (.getfield 15, 3) := by decide +kernel
theorem dX3_layRest_24 : decode cX3_layRest 24 = .ok (.iload 4, 2) := by decide +kernel
theorem dX3_layRest_26 : decode cX3_layRest 26 = .ok (.laload, 1) := by decide +kernel
theorem dX3_layRest_27 : decode cX3_layRest 27 = .ok (.aload_n 0, 1) := by decide +kernel
theorem dX3_layRest_28 : decode cX3_layRest 28 = .ok (.getfield 18, 3) := by decide +kernel
theorem dX3_layRest_31 : decode cX3_layRest 31 = .ok (.iload 4, 2) := by decide +kernel
theorem dX3_layRest_33 : decode cX3_layRest 33 = .ok (.laload, 1) := by decide +kernel
theorem dX3_layRest_34 : decode cX3_layRest 34 = .ok (.lsub, 1) := by decide +kernel
theorem dX3_layRest_35 : decode cX3_layRest 35 = .ok (.invokestatic 77, 3) := by decide +kernel
theorem dX3_layRest_38 : decode cX3_layRest 38 = .ok (.lstore_n 2, 1) := by decide +kernel
theorem dX3_layRest_39 : decode cX3_layRest 39 = .ok (.aload_n 0, 1) := by decide +kernel
theorem dX3_layRest_40 : decode cX3_layRest 40 = .ok (.getfield 11, 3) := by decide +kernel
theorem dX3_layRest_43 : decode cX3_layRest 43 = .ok (.iload 4, 2) := by decide +kernel
theorem dX3_layRest_45 : decode cX3_layRest 45 = .ok (.lload_n 2, 1) := by decide +kernel
theorem dX3_layRest_46 : decode cX3_layRest 46 = .ok (.lastore, 1) := by decide +kernel
theorem dX3_layRest_47 : decode cX3_layRest 47 = .ok (.iinc 4 1, 3) := by decide +kernel
theorem dX3_layRest_50 : decode cX3_layRest 50 = .ok (.goto (-45), 3) := by decide +kernel
theorem dX3_layRest_53 : decode cX3_layRest 53 = .ok (.return_, 1) := by decide +kernel
theorem dX3_layBoth_0 : decode cX3_layBoth 0 = .ok (.iconst 0, 1) := by decide +kernel
theorem dX3_layBoth_1 : decode cX3_layBoth 1 = .ok (.istore 4, 2) := by decide +kernel
theorem dX3_layBoth_3 : decode cX3_layBoth 3 = .ok (.iload 4, 2) := by decide +kernel
theorem dX3_layBoth_5 : decode cX3_layBoth 5 = .ok (.iload_n 1, 1) := by decide +kernel
theorem dX3_layBoth_6 : decode cX3_layBoth 6 = .ok (.if_icmp .ge 32, 3) := by decide +kernel
theorem dX3_layBoth_9 : decode cX3_layBoth 9 = .ok (.iload 4, 2) := by decide +kernel
theorem dX3_layBoth_11 : decode cX3_layBoth 11 = .ok (.sipush 600, 3) := by decide +kernel
theorem dX3_layBoth_14 : decode cX3_layBoth 14 = .ok (.if_icmp .ge 24, 3) := by decide +kernel
theorem dX3_layBoth_17 : decode cX3_layBoth 17 = .ok (.aload_n 0, 1) := by decide +kernel
theorem dX3_layBoth_18 : decode cX3_layBoth 18 = .ok (.getfield 11, 3) := by decide +kernel
theorem dX3_layBoth_21 : decode cX3_layBoth 21 = .ok (.iload 4, 2) := by decide +kernel
theorem dX3_layBoth_23 : decode cX3_layBoth 23 = .ok (.aload_n 0, 1) := by decide +kernel
theorem dX3_layBoth_24 : decode cX3_layBoth 24 = .ok (.iload 4, 2) := by decide +kernel
theorem dX3_layBoth_26 : decode cX3_layBoth 26 = .ok (.iload_n 2, 1) := by decide +kernel
theorem dX3_layBoth_27 : decode cX3_layBoth 27 = .ok (.iload_n 3, 1) := by decide +kernel
theorem dX3_layBoth_28 : decode cX3_layBoth 28 = .ok (.invokevirtual 82, 3) := by decide +kernel
theorem dX3_layBoth_31 : decode cX3_layBoth 31 = .ok (.lastore, 1) := by decide +kernel
theorem dX3_layBoth_32 : decode cX3_layBoth 32 = .ok (.iinc 4 1, 3) := by decide +kernel
theorem dX3_layBoth_35 : decode cX3_layBoth 35 = .ok (.goto (-32), 3) := by decide +kernel
theorem dX3_layBoth_38 : decode cX3_layBoth 38 = .ok (.return_, 1) := by decide +kernel
theorem dX3_leastTogether_0 : decode cX3_leastTogether 0 = .ok (.iload_n 1, 1) := by decide +kernel
theorem dX3_leastTogether_1 : decode cX3_leastTogether 1 = .ok (.ifCond .lt 10, 3) := by decide +kernel
theorem dX3_leastTogether_4 : decode cX3_leastTogether 4 = .ok (.iload_n 1, 1) := by decide +kernel
theorem dX3_leastTogether_5 : decode cX3_leastTogether 5 = .ok (.sipush 600, 3) := by decide +kernel
theorem dX3_leastTogether_8 : decode cX3_leastTogether 8 = .ok (.if_icmp .lt 5, 3) := by decide +kernel
theorem dX3_leastTogether_11 : decode cX3_leastTogether 11 = .ok (.lconst 0, 1) := by decide +kernel
theorem dX3_leastTogether_12 : decode cX3_leastTogether 12 = .ok (.lreturn, 1) := by decide +kernel
theorem dX3_leastTogether_13 : decode cX3_leastTogether 13 = .ok (.aload_n 0, 1) := by decide +kernel
theorem dX3_leastTogether_14 : decode cX3_leastTogether 14 = .ok (.getfield 15, 3) := by decide +kernel
theorem dX3_leastTogether_17 : decode cX3_leastTogether 17 = .ok (.iload_n 1, 1) := by decide +kernel
theorem dX3_leastTogether_18 : decode cX3_leastTogether 18 = .ok (.laload, 1) := by decide +kernel
theorem dX3_leastTogether_19 : decode cX3_leastTogether 19 = .ok (.aload_n 0, 1) := by decide +kernel
theorem dX3_leastTogether_20 : decode cX3_leastTogether 20 = .ok (.getfield 18, 3) := by decide +kernel
theorem dX3_leastTogether_23 : decode cX3_leastTogether 23 = .ok (.iconst 0, 1) := by decide +kernel
theorem dX3_leastTogether_24 : decode cX3_leastTogether 24 = .ok (.laload, 1) := by decide +kernel
theorem dX3_leastTogether_25 : decode cX3_leastTogether 25 = .ok (.ladd, 1) := by decide +kernel
theorem dX3_leastTogether_26 : decode cX3_leastTogether 26 = .ok (.lstore 4, 2) := by decide +kernel
theorem dX3_leastTogether_28 : decode cX3_leastTogether 28 = .ok (.iload_n 2, 1) := by decide +kernel
theorem dX3_leastTogether_29 : decode cX3_leastTogether 29 = .ok (.iload_n 1, 1) := by decide +kernel
theorem dX3_leastTogether_30 : decode cX3_leastTogether 30 = .ok (.iconst 1, 1) := by decide +kernel
theorem dX3_leastTogether_31 : decode cX3_leastTogether 31 = .ok (.iadd, 1) := by decide +kernel
theorem dX3_leastTogether_32 : decode cX3_leastTogether 32 = .ok (.invokestatic 34, 3) := by decide +kernel
theorem dX3_leastTogether_35 : decode cX3_leastTogether 35 = .ok (.istore 6, 2) := by decide +kernel
theorem dX3_leastTogether_37 : decode cX3_leastTogether 37 = .ok (.iconst 0, 1) := by decide +kernel
theorem dX3_leastTogether_38 : decode cX3_leastTogether 38 = .ok (.istore 7, 2) := by decide +kernel
theorem dX3_leastTogether_40 : decode cX3_leastTogether 40 = .ok (.iload 7, 2) := by decide +kernel
theorem dX3_leastTogether_42 : decode cX3_leastTogether 42 = .ok (.iload 6, 2) := by decide +kernel
theorem dX3_leastTogether_44 : decode cX3_leastTogether 44 = .ok (.if_icmp .ge 33, 3) := by decide +kernel
theorem dX3_leastTogether_47 : decode cX3_leastTogether 47 = .ok (.lload 4, 2) := by decide +kernel
theorem dX3_leastTogether_49 : decode cX3_leastTogether 49 = .ok (.aload_n 0, 1) := by decide +kernel
theorem dX3_leastTogether_50 : decode cX3_leastTogether 50 = .ok (.getfield 15, 3) := by decide +kernel
theorem dX3_leastTogether_53 : decode cX3_leastTogether 53 = .ok (.iload 7, 2) := by decide +kernel
theorem dX3_leastTogether_55 : decode cX3_leastTogether 55 = .ok (.laload, 1) := by decide +kernel
theorem dX3_leastTogether_56 : decode cX3_leastTogether 56 = .ok (.aload_n 0, 1) := by decide +kernel
theorem dX3_leastTogether_57 : decode cX3_leastTogether 57 = .ok (.getfield 18, 3) := by decide +kernel
theorem dX3_leastTogether_60 : decode cX3_leastTogether 60 = .ok (.iload_n 1, 1) := by decide +kernel
theorem dX3_leastTogether_61 : decode cX3_leastTogether 61 = .ok (.iload 7, 2) := by decide +kernel
theorem dX3_leastTogether_63 : decode cX3_leastTogether 63 = .ok (.isub, 1) := by decide +kernel
theorem dX3_leastTogether_64 : decode cX3_leastTogether 64 = .ok (.laload, 1) := by decide +kernel
theorem dX3_leastTogether_65 : decode cX3_leastTogether 65 = .ok (.ladd, 1) := by decide +kernel
theorem dX3_leastTogether_66 : decode cX3_leastTogether 66 = .ok (.invokestatic 80, 3) := by decide +kernel
theorem dX3_leastTogether_69 : decode cX3_leastTogether 69 = .ok (.lstore 4, 2) := by decide +kernel
theorem dX3_leastTogether_71 : decode cX3_leastTogether 71 = .ok (.iinc 7 1, 3) := by decide +kernel
theorem dX3_leastTogether_74 : decode cX3_leastTogether 74 = .ok (.goto (-34), 3) := by decide +kernel
theorem dX3_leastTogether_77 : decode cX3_leastTogether 77 = .ok (.iconst 1, 1) := by decide +kernel
theorem dX3_leastTogether_78 : decode cX3_leastTogether 78 = .ok (.istore 7, 2) := by decide +kernel
theorem dX3_leastTogether_80 : decode cX3_leastTogether 80 = .ok (.iload 7, 2) := by decide +kernel
theorem dX3_leastTogether_82 : decode cX3_leastTogether 82 = .ok (.iload_n 3, 1) := by decide +kernel
theorem dX3_leastTogether_83 : decode cX3_leastTogether 83 = .ok (.if_icmp .ge 39, 3) := by decide +kernel
theorem dX3_leastTogether_86 : decode cX3_leastTogether 86 = .ok (.iload 7, 2) := by decide +kernel
theorem dX3_leastTogether_88 : decode cX3_leastTogether 88 = .ok (.iload_n 1, 1) := by decide +kernel
theorem dX3_leastTogether_89 : decode cX3_leastTogether 89 = .ok (.if_icmp .gt 33, 3) := by decide +kernel
theorem dX3_leastTogether_92 : decode cX3_leastTogether 92 = .ok (.lload 4, 2) := by decide +kernel
theorem dX3_leastTogether_94 : decode cX3_leastTogether 94 = .ok (.aload_n 0, 1) := by decide +kernel
theorem dX3_leastTogether_95 : decode cX3_leastTogether 95 = .ok (.getfield 15, 3) := by decide +kernel
theorem dX3_leastTogether_98 : decode cX3_leastTogether 98 = .ok (.iload_n 1, 1) := by decide +kernel
theorem dX3_leastTogether_99 : decode cX3_leastTogether 99 = .ok (.iload 7, 2) := by decide +kernel
theorem dX3_leastTogether_101 : decode cX3_leastTogether 101 = .ok (.isub, 1) := by decide +kernel
theorem dX3_leastTogether_102 : decode cX3_leastTogether 102 = .ok (.laload, 1) := by decide +kernel
theorem dX3_leastTogether_103 : decode cX3_leastTogether 103 = .ok (.aload_n 0, 1) := by decide +kernel
theorem dX3_leastTogether_104 : decode cX3_leastTogether 104 = .ok (.getfield 18, 3) := by decide +kernel
theorem dX3_leastTogether_107 : decode cX3_leastTogether 107 = .ok (.iload 7, 2) := by decide +kernel
theorem dX3_leastTogether_109 : decode cX3_leastTogether 109 = .ok (.laload, 1) := by decide +kernel
theorem dX3_leastTogether_110 : decode cX3_leastTogether 110 = .ok (.ladd, 1) := by decide +kernel
theorem dX3_leastTogether_111 : decode cX3_leastTogether 111 = .ok (.invokestatic 80, 3) := by decide +kernel
theorem dX3_leastTogether_114 : decode cX3_leastTogether 114 = .ok (.lstore 4, 2) := by decide +kernel
theorem dX3_leastTogether_116 : decode cX3_leastTogether 116 = .ok (.iinc 7 1, 3) := by decide +kernel
theorem dX3_leastTogether_119 : decode cX3_leastTogether 119 = .ok (.goto (-39), 3) := by decide +kernel
theorem dX3_leastTogether_122 : decode cX3_leastTogether 122 = .ok (.lload 4, 2) := by decide +kernel
theorem dX3_leastTogether_124 : decode cX3_leastTogether 124 = .ok (.lreturn, 1) := by decide +kernel
theorem dX3_layOff_0 : decode cX3_layOff 0 = .ok (.iconst 0, 1) := by decide +kernel
theorem dX3_layOff_1 : decode cX3_layOff 1 = .ok (.istore_n 3, 1) := by decide +kernel
theorem dX3_layOff_2 : decode cX3_layOff 2 = .ok (.iload_n 3, 1) := by decide +kernel
theorem dX3_layOff_3 : decode cX3_layOff 3 = .ok (.iload_n 1, 1) := by decide +kernel
theorem dX3_layOff_4 : decode cX3_layOff 4 = .ok (.if_icmp .ge 76, 3) := by decide +kernel
theorem dX3_layOff_7 : decode cX3_layOff 7 = .ok (.iload_n 3, 1) := by decide +kernel
theorem dX3_layOff_8 : decode cX3_layOff 8 = .ok (.sipush 600, 3) := by decide +kernel
theorem dX3_layOff_11 : decode cX3_layOff 11 = .ok (.if_icmp .ge 69, 3) := by decide +kernel
theorem dX3_layOff_14 : decode cX3_layOff 14 = .ok (.lconst 0, 1) := by decide +kernel
theorem dX3_layOff_15 : decode cX3_layOff 15 = .ok (.lstore 4, 2) := by decide +kernel
theorem dX3_layOff_17 : decode cX3_layOff 17 = .ok (.iconst 0, 1) := by decide +kernel
theorem dX3_layOff_18 : decode cX3_layOff 18 = .ok (.istore 6, 2) := by decide +kernel
theorem dX3_layOff_20 : decode cX3_layOff 20 = .ok (.iload 6, 2) := by decide +kernel
theorem dX3_layOff_22 : decode cX3_layOff 22 = .ok (.iload_n 2, 1) := by decide +kernel
theorem dX3_layOff_23 : decode cX3_layOff 23 = .ok (.if_icmp .ge 43, 3) := by decide +kernel
theorem dX3_layOff_26 : decode cX3_layOff 26 = .ok (.iload_n 3, 1) := by decide +kernel
theorem dX3_layOff_27 : decode cX3_layOff 27 = .ok (.iload 6, 2) := by decide +kernel
theorem dX3_layOff_29 : decode cX3_layOff 29 = .ok (.iadd, 1) := by decide +kernel
theorem dX3_layOff_30 : decode cX3_layOff 30 = .ok (.sipush 600, 3) := by decide +kernel
theorem dX3_layOff_33 : decode cX3_layOff 33 = .ok (.if_icmp .ge 33, 3) := by decide +kernel
theorem dX3_layOff_36 : decode cX3_layOff 36 = .ok (.lload 4, 2) := by decide +kernel
theorem dX3_layOff_38 : decode cX3_layOff 38 = .ok (.aload_n 0, 1) := by decide +kernel
theorem dX3_layOff_39 : decode cX3_layOff 39 = .ok (.getfield 15, 3) := by decide +kernel
theorem dX3_layOff_42 : decode cX3_layOff 42 = .ok (.iload_n 3, 1) := by decide +kernel
theorem dX3_layOff_43 : decode cX3_layOff 43 = .ok (.iload 6, 2) := by decide +kernel
theorem dX3_layOff_45 : decode cX3_layOff 45 = .ok (.iadd, 1) := by decide +kernel
theorem dX3_layOff_46 : decode cX3_layOff 46 = .ok (.laload, 1) := by decide +kernel
theorem dX3_layOff_47 : decode cX3_layOff 47 = .ok (.aload_n 0, 1) := by decide +kernel
theorem dX3_layOff_48 : decode cX3_layOff 48 = .ok (.getfield 18, 3) := by decide +kernel
theorem dX3_layOff_51 : decode cX3_layOff 51 = .ok (.iload 6, 2) := by decide +kernel
theorem dX3_layOff_53 : decode cX3_layOff 53 = .ok (.laload, 1) := by decide +kernel
theorem dX3_layOff_54 : decode cX3_layOff 54 = .ok (.lsub, 1) := by decide +kernel
theorem dX3_layOff_55 : decode cX3_layOff 55 = .ok (.invokestatic 77, 3) := by decide +kernel
theorem dX3_layOff_58 : decode cX3_layOff 58 = .ok (.lstore 4, 2) := by decide +kernel
theorem dX3_layOff_60 : decode cX3_layOff 60 = .ok (.iinc 6 1, 3) := by decide +kernel
theorem dX3_layOff_63 : decode cX3_layOff 63 = .ok (.goto (-43), 3) := by decide +kernel
theorem dX3_layOff_66 : decode cX3_layOff 66 = .ok (.aload_n 0, 1) := by decide +kernel
theorem dX3_layOff_67 : decode cX3_layOff 67 = .ok (.getfield 11, 3) := by decide +kernel
theorem dX3_layOff_70 : decode cX3_layOff 70 = .ok (.iload_n 3, 1) := by decide +kernel
theorem dX3_layOff_71 : decode cX3_layOff 71 = .ok (.lload 4, 2) := by decide +kernel
theorem dX3_layOff_73 : decode cX3_layOff 73 = .ok (.lastore, 1) := by decide +kernel
theorem dX3_layOff_74 : decode cX3_layOff 74 = .ok (.iinc 3 1, 3) := by decide +kernel
theorem dX3_layOff_77 : decode cX3_layOff 77 = .ok (.goto (-75), 3) := by decide +kernel
theorem dX3_layOff_80 : decode cX3_layOff 80 = .ok (.return_, 1) := by decide +kernel
theorem dX3_comesRound_0 : decode cX3_comesRound 0 = .ok (.iconst 0, 1) := by decide +kernel
theorem dX3_comesRound_1 : decode cX3_comesRound 1 = .ok (.iload_n 1, 1) := by decide +kernel
theorem dX3_comesRound_2 : decode cX3_comesRound 2 = .ok (.invokestatic 44, 3) := by decide +kernel
theorem dX3_comesRound_5 : decode cX3_comesRound 5 = .ok (.istore 5, 2) := by decide +kernel
theorem dX3_comesRound_7 : decode cX3_comesRound 7 = .ok (.iload 5, 2) := by decide +kernel
theorem dX3_comesRound_9 : decode cX3_comesRound 9 = .ok (.iload_n 1, 1) := by decide +kernel
theorem dX3_comesRound_10 : decode cX3_comesRound 10 = .ok (.iload_n 2, 1) := by decide +kernel
theorem dX3_comesRound_11 : decode cX3_comesRound 11 = .ok (.iadd, 1) := by decide +kernel
theorem dX3_comesRound_12 : decode cX3_comesRound 12 = .ok (.if_icmp .ge 47, 3) := by decide +kernel
theorem dX3_comesRound_15 : decode cX3_comesRound 15 = .ok (.iload_n 2, 1) := by decide +kernel
theorem dX3_comesRound_16 : decode cX3_comesRound 16 = .ok (.ifCond .lt 35, 3) := by decide +kernel
theorem dX3_comesRound_19 : decode cX3_comesRound 19 = .ok (.iload 5, 2) := by decide +kernel
theorem dX3_comesRound_21 : decode cX3_comesRound 21 = .ok (.iload_n 2, 1) := by decide +kernel
theorem dX3_comesRound_22 : decode cX3_comesRound 22 = .ok (.iadd, 1) := by decide +kernel
theorem dX3_comesRound_23 : decode cX3_comesRound 23 = .ok (.sipush 600, 3) := by decide +kernel
theorem dX3_comesRound_26 : decode cX3_comesRound 26 = .ok (.if_icmp .ge 25, 3) := by decide +kernel
theorem dX3_comesRound_29 : decode cX3_comesRound 29 = .ok (.aload_n 0, 1) := by decide +kernel
theorem dX3_comesRound_30 : decode cX3_comesRound 30 = .ok (.getfield 11, 3) := by decide +kernel
theorem dX3_comesRound_33 : decode cX3_comesRound 33 = .ok (.iload 5, 2) := by decide +kernel
theorem dX3_comesRound_35 : decode cX3_comesRound 35 = .ok (.iload_n 2, 1) := by decide +kernel
theorem dX3_comesRound_36 : decode cX3_comesRound 36 = .ok (.iadd, 1) := by decide +kernel
theorem dX3_comesRound_37 : decode cX3_comesRound 37 = .ok (.laload, 1) := by decide +kernel
theorem dX3_comesRound_38 : decode cX3_comesRound 38 = .ok (.aload_n 0, 1) := by decide +kernel
theorem dX3_comesRound_39 : decode cX3_comesRound 39 = .ok (.getfield 11, 3) := by decide +kernel
theorem dX3_comesRound_42 : decode cX3_comesRound 42 = .ok (.iload 5, 2) := by decide +kernel
theorem dX3_comesRound_44 : decode cX3_comesRound 44 = .ok (.laload, 1) := by decide +kernel
theorem dX3_comesRound_45 : decode cX3_comesRound 45 = .ok (.lload_n 3, 1) := by decide +kernel
theorem dX3_comesRound_46 : decode cX3_comesRound 46 = .ok (.ladd, 1) := by decide +kernel
theorem dX3_comesRound_47 : decode cX3_comesRound 47 = .ok (.lcmp, 1) := by decide +kernel
theorem dX3_comesRound_48 : decode cX3_comesRound 48 = .ok (.ifCond .eq 5, 3) := by decide +kernel
theorem dX3_comesRound_51 : decode cX3_comesRound 51 = .ok (.iconst 0, 1) := by decide +kernel
theorem dX3_comesRound_52 : decode cX3_comesRound 52 = .ok (.ireturn, 1) := by decide +kernel
theorem dX3_comesRound_53 : decode cX3_comesRound 53 = .ok (.iinc 5 1, 3) := by decide +kernel
theorem dX3_comesRound_56 : decode cX3_comesRound 56 = .ok (.goto (-49), 3) := by decide +kernel
theorem dX3_comesRound_59 : decode cX3_comesRound 59 = .ok (.iconst 1, 1) := by decide +kernel
theorem dX3_comesRound_60 : decode cX3_comesRound 60 = .ok (.ireturn, 1) := by decide +kernel
theorem dX3_settled_0 : decode cX3_settled 0 = .ok (.iload_n 1, 1) := by decide +kernel
theorem dX3_settled_1 : decode cX3_settled 1 = .ok (.ifCond .lt 19, 3) := by decide +kernel
theorem dX3_settled_4 : decode cX3_settled 4 = .ok (.iload_n 2, 1) := by decide +kernel
theorem dX3_settled_5 : decode cX3_settled 5 = .ok (.iconst 1, 1) := by decide +kernel
theorem dX3_settled_6 : decode cX3_settled 6 = .ok (.if_icmp .lt 14, 3) := by decide +kernel
theorem dX3_settled_9 : decode cX3_settled 9 = .ok (.iload_n 1, 1) := by decide +kernel
theorem dX3_settled_10 : decode cX3_settled 10 = .ok (.iconst 2, 1) := by decide +kernel
theorem dX3_settled_11 : decode cX3_settled 11 = .ok (.iload_n 2, 1) := by decide +kernel
theorem dX3_settled_12 : decode cX3_settled 12 = .ok (.imul, 1) := by decide +kernel
theorem dX3_settled_13 : decode cX3_settled 13 = .ok (.iadd, 1) := by decide +kernel
theorem dX3_settled_14 : decode cX3_settled 14 = .ok (.sipush 600, 3) := by decide +kernel
theorem dX3_settled_17 : decode cX3_settled 17 = .ok (.if_icmp .le 5, 3) := by decide +kernel
theorem dX3_settled_20 : decode cX3_settled 20 = .ok (.aconst_null, 1) := by decide +kernel
theorem dX3_settled_21 : decode cX3_settled 21 = .ok (.areturn, 1) := by decide +kernel
theorem dX3_settled_22 : decode cX3_settled 22 = .ok (.aload_n 0, 1) := by decide +kernel
theorem dX3_settled_23 : decode cX3_settled 23 = .ok (.iload_n 1, 1) := by decide +kernel
theorem dX3_settled_24 : decode cX3_settled 24 = .ok (.iload_n 2, 1) := by decide +kernel
theorem dX3_settled_25 : decode cX3_settled 25 = .ok (.invokevirtual 86, 3) := by decide +kernel
theorem dX3_settled_28 : decode cX3_settled 28 = .ok (.istore_n 3, 1) := by decide +kernel
theorem dX3_settled_29 : decode cX3_settled 29 = .ok (.aload_n 0, 1) := by decide +kernel
theorem dX3_settled_30 : decode cX3_settled 30 = .ok (.getfield 11, 3) := by decide +kernel
theorem dX3_settled_33 : decode cX3_settled 33 = .ok (.iload_n 1, 1) := by decide +kernel
theorem dX3_settled_34 : decode cX3_settled 34 = .ok (.iload_n 3, 1) := by decide +kernel
theorem dX3_settled_35 : decode cX3_settled 35 = .ok (.iadd, 1) := by decide +kernel
theorem dX3_settled_36 : decode cX3_settled 36 = .ok (.laload, 1) := by decide +kernel
theorem dX3_settled_37 : decode cX3_settled 37 = .ok (.aload_n 0, 1) := by decide +kernel
theorem dX3_settled_38 : decode cX3_settled 38 = .ok (.getfield 11, 3) := by decide +kernel
theorem dX3_settled_41 : decode cX3_settled 41 = .ok (.iload_n 1, 1) := by decide +kernel
theorem dX3_settled_42 : decode cX3_settled 42 = .ok (.laload, 1) := by decide +kernel
theorem dX3_settled_43 : decode cX3_settled 43 = .ok (.lsub, 1) := by decide +kernel
theorem dX3_settled_44 : decode cX3_settled 44 = .ok (.lstore 4, 2) := by decide +kernel
theorem dX3_settled_46 : decode cX3_settled 46 = .ok (.iload_n 1, 1) := by decide +kernel
theorem dX3_settled_47 : decode cX3_settled 47 = .ok (.istore 6, 2) := by decide +kernel
theorem dX3_settled_49 : decode cX3_settled 49 = .ok (.iload_n 1, 1) := by decide +kernel
theorem dX3_settled_50 : decode cX3_settled 50 = .ok (.iconst 1, 1) := by decide +kernel
theorem dX3_settled_51 : decode cX3_settled 51 = .ok (.isub, 1) := by decide +kernel
theorem dX3_settled_52 : decode cX3_settled 52 = .ok (.istore 7, 2) := by decide +kernel
theorem dX3_settled_54 : decode cX3_settled 54 = .ok (.iload 7, 2) := by decide +kernel
theorem dX3_settled_56 : decode cX3_settled 56 = .ok (.ifCond .lt 36, 3) := by decide +kernel
theorem dX3_settled_59 : decode cX3_settled 59 = .ok (.aload_n 0, 1) := by decide +kernel
theorem dX3_settled_60 : decode cX3_settled 60 = .ok (.getfield 11, 3) := by decide +kernel
theorem dX3_settled_63 : decode cX3_settled 63 = .ok (.iload 7, 2) := by decide +kernel
theorem dX3_settled_65 : decode cX3_settled 65 = .ok (.iload_n 3, 1) := by decide +kernel
theorem dX3_settled_66 : decode cX3_settled 66 = .ok (.iadd, 1) := by decide +kernel
theorem dX3_settled_67 : decode cX3_settled 67 = .ok (.laload, 1) := by decide +kernel
theorem dX3_settled_68 : decode cX3_settled 68 = .ok (.aload_n 0, 1) := by decide +kernel
theorem dX3_settled_69 : decode cX3_settled 69 = .ok (.getfield 11, 3) := by decide +kernel
theorem dX3_settled_72 : decode cX3_settled 72 = .ok (.iload 7, 2) := by decide +kernel
theorem dX3_settled_74 : decode cX3_settled 74 = .ok (.laload, 1) := by decide +kernel
theorem dX3_settled_75 : decode cX3_settled 75 = .ok (.lload 4, 2) := by decide +kernel
theorem dX3_settled_77 : decode cX3_settled 77 = .ok (.ladd, 1) := by decide +kernel
theorem dX3_settled_78 : decode cX3_settled 78 = .ok (.lcmp, 1) := by decide +kernel
theorem dX3_settled_79 : decode cX3_settled 79 = .ok (.ifCond .ne 13, 3) := by decide +kernel
theorem dX3_settled_82 : decode cX3_settled 82 = .ok (.iload 7, 2) := by decide +kernel
theorem dX3_settled_84 : decode cX3_settled 84 = .ok (.istore 6, 2) := by decide +kernel
theorem dX3_settled_86 : decode cX3_settled 86 = .ok (.iinc 7 (-1), 3) := by decide +kernel
theorem dX3_settled_89 : decode cX3_settled 89 = .ok (.goto (-35), 3) := by decide +kernel
theorem dX3_settled_92 : decode cX3_settled 92 = .ok (.iload 6, 2) := by decide +kernel
theorem dX3_settled_94 : decode cX3_settled 94 = .ok (.iload_n 3, 1) := by decide +kernel
theorem dX3_settled_95 : decode cX3_settled 95 = .ok (.iadd, 1) := by decide +kernel
theorem dX3_settled_96 : decode cX3_settled 96 = .ok (.istore 7, 2) := by decide +kernel
theorem dX3_settled_98 : decode cX3_settled 98 = .ok (.iload 6, 2) := by decide +kernel
theorem dX3_settled_100 : decode cX3_settled 100 = .ok (.sipush 200, 3) := by decide +kernel
theorem dX3_settled_103 : decode cX3_settled 103 = .ok (.if_icmp .gt 34, 3) := by decide +kernel
theorem dX3_settled_106 : decode cX3_settled 106 = .ok (.iload_n 3, 1) := by decide +kernel
theorem dX3_settled_107 : decode cX3_settled 107 = .ok (.bipush 60, 2) := by decide +kernel
theorem dX3_settled_109 : decode cX3_settled 109 = .ok (.if_icmp .gt 28, 3) := by decide +kernel
theorem dX3_settled_112 : decode cX3_settled 112 = .ok (.lload 4, 2) := by decide +kernel
theorem dX3_settled_114 : decode cX3_settled 114 = .ok (.ldc2_w 89, 3) := by decide +kernel
theorem dX3_settled_117 : decode cX3_settled 117 = .ok (.lcmp, 1) := by decide +kernel
theorem dX3_settled_118 : decode cX3_settled 118 = .ok (.ifCond .gt 19, 3) := by decide +kernel
theorem dX3_settled_121 : decode cX3_settled 121 = .ok (.aload_n 0, 1) := by decide +kernel
theorem dX3_settled_122 : decode cX3_settled 122 = .ok (.getfield 11, 3) := by decide +kernel
theorem dX3_settled_125 : decode cX3_settled 125 = .ok (.iload 7, 2) := by decide +kernel
theorem dX3_settled_127 : decode cX3_settled 127 = .ok (.iconst 1, 1) := by decide +kernel
theorem dX3_settled_128 : decode cX3_settled 128 = .ok (.isub, 1) := by decide +kernel
theorem dX3_settled_129 : decode cX3_settled 129 = .ok (.laload, 1) := by decide +kernel
theorem dX3_settled_130 : decode cX3_settled 130 = .ok (.ldc2_w 91, 3) := by decide +kernel
theorem dX3_settled_133 : decode cX3_settled 133 = .ok (.lcmp, 1) := by decide +kernel
theorem dX3_settled_134 : decode cX3_settled 134 = .ok (.ifCond .le 5, 3) := by decide +kernel
theorem dX3_settled_137 : decode cX3_settled 137 = .ok (.aconst_null, 1) := by decide +kernel
theorem dX3_settled_138 : decode cX3_settled 138 = .ok (.areturn, 1) := by decide +kernel
theorem dX3_settled_139 : decode cX3_settled 139 = .ok (.iload 6, 2) := by decide +kernel
theorem dX3_settled_141 : decode cX3_settled 141 = .ok (.iload_n 3, 1) := by decide +kernel
theorem dX3_settled_142 : decode cX3_settled 142 = .ok (.lload 4, 2) := by decide +kernel
theorem dX3_settled_144 : decode cX3_settled 144 = .ok (.l2i, 1) := by decide +kernel
theorem dX3_settled_145 : decode cX3_settled 145 = .ok (.aload_n 0, 1) := by decide +kernel
theorem dX3_settled_146 : decode cX3_settled 146 = .ok (.getfield 11, 3) := by decide +kernel
theorem dX3_settled_149 : decode cX3_settled 149 = .ok (.iload 7, 2) := by decide +kernel
theorem dX3_settled_151 : decode cX3_settled 151 = .ok (.invokestatic 93, 3) := by decide +kernel
theorem dX3_settled_154 : decode cX3_settled 154 = .ok (.invokestatic 99, 3) := by decide +kernel
theorem dX3_settled_157 : decode cX3_settled 157 = .ok (.areturn, 1) := by decide +kernel
theorem dX3_leastStep_0 : decode cX3_leastStep 0 = .ok (.iconst 1, 1) := by decide +kernel
theorem dX3_leastStep_1 : decode cX3_leastStep 1 = .ok (.istore_n 3, 1) := by decide +kernel
theorem dX3_leastStep_2 : decode cX3_leastStep 2 = .ok (.iload_n 3, 1) := by decide +kernel
theorem dX3_leastStep_3 : decode cX3_leastStep 3 = .ok (.iload_n 2, 1) := by decide +kernel
theorem dX3_leastStep_4 : decode cX3_leastStep 4 = .ok (.if_icmp .ge 21, 3) := by decide +kernel
theorem dX3_leastStep_7 : decode cX3_leastStep 7 = .ok (.aload_n 0, 1) := by decide +kernel
theorem dX3_leastStep_8 : decode cX3_leastStep 8 = .ok (.iload_n 3, 1) := by decide +kernel
theorem dX3_leastStep_9 : decode cX3_leastStep 9 = .ok (.iload_n 1, 1) := by decide +kernel
theorem dX3_leastStep_10 : decode cX3_leastStep 10 = .ok (.iload_n 2, 1) := by decide +kernel
theorem dX3_leastStep_11 : decode cX3_leastStep 11 = .ok (.invokevirtual 103, 3) := by decide +kernel
theorem dX3_leastStep_14 : decode cX3_leastStep 14 = .ok (.ifCond .eq 5, 3) := by decide +kernel
theorem dX3_leastStep_17 : decode cX3_leastStep 17 = .ok (.iload_n 3, 1) := by decide +kernel
theorem dX3_leastStep_18 : decode cX3_leastStep 18 = .ok (.ireturn, 1) := by decide +kernel
theorem dX3_leastStep_19 : decode cX3_leastStep 19 = .ok (.iinc 3 1, 3) := by decide +kernel
theorem dX3_leastStep_22 : decode cX3_leastStep 22 = .ok (.goto (-20), 3) := by decide +kernel
theorem dX3_leastStep_25 : decode cX3_leastStep 25 = .ok (.iload_n 2, 1) := by decide +kernel
theorem dX3_leastStep_26 : decode cX3_leastStep 26 = .ok (.ireturn, 1) := by decide +kernel
theorem dX3_alsoComesRoundBy_0 : decode cX3_alsoComesRoundBy 0 = .ok (.iload_n 2, 1) := by decide +kernel
theorem dX3_alsoComesRoundBy_1 : decode cX3_alsoComesRoundBy 1 = .ok (.ifCond .lt 24, 3) := by decide +kernel
theorem dX3_alsoComesRoundBy_4 : decode cX3_alsoComesRoundBy 4 = .ok (.iload_n 1, 1) := by decide +kernel
theorem dX3_alsoComesRoundBy_5 : decode cX3_alsoComesRoundBy 5 = .ok (.iconst 1, 1) := by decide +kernel
theorem dX3_alsoComesRoundBy_6 : decode cX3_alsoComesRoundBy 6 = .ok (.if_icmp .lt 19, 3) := by decide +kernel
theorem dX3_alsoComesRoundBy_9 : decode cX3_alsoComesRoundBy 9 = .ok (.iload_n 3, 1) := by decide +kernel
theorem dX3_alsoComesRoundBy_10 : decode cX3_alsoComesRoundBy 10 = .ok (.iconst 1, 1) := by decide +kernel
theorem dX3_alsoComesRoundBy_11 : decode cX3_alsoComesRoundBy 11 = .ok (.if_icmp .lt 14, 3) := by decide +kernel
theorem dX3_alsoComesRoundBy_14 : decode cX3_alsoComesRoundBy 14 = .ok (.iload_n 2, 1) := by decide +kernel
theorem dX3_alsoComesRoundBy_15 : decode cX3_alsoComesRoundBy 15 = .ok (.iload_n 3, 1) := by decide +kernel
theorem dX3_alsoComesRoundBy_16 : decode cX3_alsoComesRoundBy 16 = .ok (.iadd, 1) := by decide +kernel
theorem dX3_alsoComesRoundBy_17 : decode cX3_alsoComesRoundBy 17 = .ok (.iload_n 1, 1) := by decide +kernel
theorem dX3_alsoComesRoundBy_18 : decode cX3_alsoComesRoundBy 18 = .ok (.iadd, 1) := by decide +kernel
theorem dX3_alsoComesRoundBy_19 : decode cX3_alsoComesRoundBy 19 = .ok (.sipush 600, 3) := by decide +kernel
theorem dX3_alsoComesRoundBy_22 : decode cX3_alsoComesRoundBy 22 = .ok (.if_icmp .le 5, 3) := by decide +kernel
theorem dX3_alsoComesRoundBy_25 : decode cX3_alsoComesRoundBy 25 = .ok (.iconst 0, 1) := by decide +kernel
theorem dX3_alsoComesRoundBy_26 : decode cX3_alsoComesRoundBy 26 = .ok (.ireturn, 1) := by decide +kernel
theorem dX3_alsoComesRoundBy_27 : decode cX3_alsoComesRoundBy 27 = .ok (.aload_n 0, 1) := by decide +kernel
theorem dX3_alsoComesRoundBy_28 : decode cX3_alsoComesRoundBy 28 = .ok (.getfield 11, 3) := by decide +kernel
theorem dX3_alsoComesRoundBy_31 : decode cX3_alsoComesRoundBy 31 = .ok (.iload_n 2, 1) := by decide +kernel
theorem dX3_alsoComesRoundBy_32 : decode cX3_alsoComesRoundBy 32 = .ok (.iload_n 1, 1) := by decide +kernel
theorem dX3_alsoComesRoundBy_33 : decode cX3_alsoComesRoundBy 33 = .ok (.iadd, 1) := by decide +kernel
theorem dX3_alsoComesRoundBy_34 : decode cX3_alsoComesRoundBy 34 = .ok (.laload, 1) := by decide +kernel
theorem dX3_alsoComesRoundBy_35 : decode cX3_alsoComesRoundBy 35 = .ok (.aload_n 0, 1) := by decide +kernel
theorem dX3_alsoComesRoundBy_36 : decode cX3_alsoComesRoundBy 36 = .ok (.getfield 11, 3) := by decide +kernel
theorem dX3_alsoComesRoundBy_39 : decode cX3_alsoComesRoundBy 39 = .ok (.iload_n 2, 1) := by decide +kernel
theorem dX3_alsoComesRoundBy_40 : decode cX3_alsoComesRoundBy 40 = .ok (.laload, 1) := by decide +kernel
theorem dX3_alsoComesRoundBy_41 : decode cX3_alsoComesRoundBy 41 = .ok (.lsub, 1) := by decide +kernel
theorem dX3_alsoComesRoundBy_42 : decode cX3_alsoComesRoundBy 42 = .ok (.lstore 4, 2) := by decide +kernel
theorem dX3_alsoComesRoundBy_44 : decode cX3_alsoComesRoundBy 44 = .ok (.iload_n 2, 1) := by decide +kernel
theorem dX3_alsoComesRoundBy_45 : decode cX3_alsoComesRoundBy 45 = .ok (.istore 6, 2) := by decide +kernel
theorem dX3_alsoComesRoundBy_47 : decode cX3_alsoComesRoundBy 47 = .ok (.iload 6, 2) := by decide +kernel
theorem dX3_alsoComesRoundBy_49 : decode cX3_alsoComesRoundBy 49 = .ok (.iload_n 2, 1) := by decide +kernel
theorem dX3_alsoComesRoundBy_50 : decode cX3_alsoComesRoundBy 50 = .ok (.iload_n 3, 1) := by decide +kernel
theorem dX3_alsoComesRoundBy_51 : decode cX3_alsoComesRoundBy 51 = .ok (.iadd, 1) := by decide +kernel
theorem dX3_alsoComesRoundBy_52 : decode cX3_alsoComesRoundBy 52 = .ok (.if_icmp .ge 34, 3) := by decide +kernel
theorem dX3_alsoComesRoundBy_55 : decode cX3_alsoComesRoundBy 55 = .ok (.aload_n 0, 1) := by decide +kernel
theorem dX3_alsoComesRoundBy_56 : decode cX3_alsoComesRoundBy 56 = .ok (.getfield 11, 3) := by decide +kernel
theorem dX3_alsoComesRoundBy_59 : decode cX3_alsoComesRoundBy 59 = .ok (.iload 6, 2) := by decide +kernel
theorem dX3_alsoComesRoundBy_61 : decode cX3_alsoComesRoundBy 61 = .ok (.iload_n 1, 1) := by decide +kernel
theorem dX3_alsoComesRoundBy_62 : decode cX3_alsoComesRoundBy 62 = .ok (.iadd, 1) := by decide +kernel
theorem dX3_alsoComesRoundBy_63 : decode cX3_alsoComesRoundBy 63 = .ok (.laload, 1) := by decide +kernel
theorem dX3_alsoComesRoundBy_64 : decode cX3_alsoComesRoundBy 64 = .ok (.aload_n 0, 1) := by decide +kernel
theorem dX3_alsoComesRoundBy_65 : decode cX3_alsoComesRoundBy 65 = .ok (.getfield 11, 3) := by decide +kernel
theorem dX3_alsoComesRoundBy_68 : decode cX3_alsoComesRoundBy 68 = .ok (.iload 6, 2) := by decide +kernel
theorem dX3_alsoComesRoundBy_70 : decode cX3_alsoComesRoundBy 70 = .ok (.laload, 1) := by decide +kernel
theorem dX3_alsoComesRoundBy_71 : decode cX3_alsoComesRoundBy 71 = .ok (.lload 4, 2) := by decide +kernel
theorem dX3_alsoComesRoundBy_73 : decode cX3_alsoComesRoundBy 73 = .ok (.ladd, 1) := by decide +kernel
theorem dX3_alsoComesRoundBy_74 : decode cX3_alsoComesRoundBy 74 = .ok (.lcmp, 1) := by decide +kernel
theorem dX3_alsoComesRoundBy_75 : decode cX3_alsoComesRoundBy 75 = .ok (.ifCond .eq 5, 3) := by decide +kernel
theorem dX3_alsoComesRoundBy_78 : decode cX3_alsoComesRoundBy 78 = .ok (.iconst 0, 1) := by decide +kernel
theorem dX3_alsoComesRoundBy_79 : decode cX3_alsoComesRoundBy 79 = .ok (.ireturn, 1) := by decide +kernel
theorem dX3_alsoComesRoundBy_80 : decode cX3_alsoComesRoundBy 80 = .ok (.iinc 6 1, 3) := by decide +kernel
theorem dX3_alsoComesRoundBy_83 : decode cX3_alsoComesRoundBy 83 = .ok (.goto (-36), 3) := by decide +kernel
theorem dX3_alsoComesRoundBy_86 : decode cX3_alsoComesRoundBy 86 = .ok (.iconst 1, 1) := by decide +kernel
theorem dX3_alsoComesRoundBy_87 : decode cX3_alsoComesRoundBy 87 = .ok (.ireturn, 1) := by decide +kernel
theorem dX3_ofItsKind_0 : decode cX3_ofItsKind 0 = .ok (.aload_n 3, 1) := by decide +kernel
theorem dX3_ofItsKind_1 : decode cX3_ofItsKind 1 = .ok (.arraylength, 1) := by decide +kernel
theorem dX3_ofItsKind_2 : decode cX3_ofItsKind 2 = .ok (.ifCond .le 15, 3) := by decide +kernel
theorem dX3_ofItsKind_5 : decode cX3_ofItsKind 5 = .ok (.aload_n 3, 1) := by decide +kernel
theorem dX3_ofItsKind_6 : decode cX3_ofItsKind 6 = .ok (.iconst 0, 1) := by decide +kernel
theorem dX3_ofItsKind_7 : decode cX3_ofItsKind 7 = .ok (.laload, 1) := by decide +kernel
theorem dX3_ofItsKind_8 : decode cX3_ofItsKind 8 = .ok (.lconst 0, 1) := by decide +kernel
theorem dX3_ofItsKind_9 : decode cX3_ofItsKind 9 = .ok (.lcmp, 1) := by decide +kernel
theorem dX3_ofItsKind_10 : decode cX3_ofItsKind 10 = .ok (.ifCond .ne 7, 3) := by decide +kernel
theorem dX3_ofItsKind_13 : decode cX3_ofItsKind 13 = .ok (.iconst 1, 1) := by decide +kernel
theorem dX3_ofItsKind_14 : decode cX3_ofItsKind 14 = .ok (.goto 4, 3) := by decide +kernel
theorem dX3_ofItsKind_17 : decode cX3_ofItsKind 17 = .ok (.iconst 0, 1) := by decide +kernel
theorem dX3_ofItsKind_18 : decode cX3_ofItsKind 18 = .ok (.istore 4, 2) := by decide +kernel
theorem dX3_ofItsKind_20 : decode cX3_ofItsKind 20 = .ok (.aload_n 3, 1) := by decide +kernel
theorem dX3_ofItsKind_21 : decode cX3_ofItsKind 21 = .ok (.arraylength, 1) := by decide +kernel
theorem dX3_ofItsKind_22 : decode cX3_ofItsKind 22 = .ok (.ifCond .le 18, 3) := by decide +kernel
theorem dX3_ofItsKind_25 : decode cX3_ofItsKind 25 = .ok (.aload_n 3, 1) := by decide +kernel
theorem dX3_ofItsKind_26 : decode cX3_ofItsKind 26 = .ok (.aload_n 3, 1) := by decide +kernel
theorem dX3_ofItsKind_27 : decode cX3_ofItsKind 27 = .ok (.arraylength, 1) := by decide +kernel
theorem dX3_ofItsKind_28 : decode cX3_ofItsKind 28 = .ok (.iconst 1, 1) := by decide +kernel
theorem dX3_ofItsKind_29 : decode cX3_ofItsKind 29 = .ok (.isub, 1) := by decide +kernel
theorem dX3_ofItsKind_30 : decode cX3_ofItsKind 30 = .ok (.laload, 1) := by decide +kernel
theorem dX3_ofItsKind_31 : decode cX3_ofItsKind 31 = .ok (.lconst 0, 1) := by decide +kernel
theorem dX3_ofItsKind_32 : decode cX3_ofItsKind 32 = .ok (.lcmp, 1) := by decide +kernel
theorem dX3_ofItsKind_33 : decode cX3_ofItsKind 33 = .ok (.ifCond .ne 7, 3) := by decide +kernel
theorem dX3_ofItsKind_36 : decode cX3_ofItsKind 36 = .ok (.iconst 1, 1) := by decide +kernel
theorem dX3_ofItsKind_37 : decode cX3_ofItsKind 37 = .ok (.goto 4, 3) := by decide +kernel
theorem dX3_ofItsKind_40 : decode cX3_ofItsKind 40 = .ok (.iconst 0, 1) := by decide +kernel
theorem dX3_ofItsKind_41 : decode cX3_ofItsKind 41 = .ok (.istore 5, 2) := by decide +kernel
theorem dX3_ofItsKind_43 : decode cX3_ofItsKind 43 = .ok (.iload_n 1, 1) := by decide +kernel
theorem dX3_ofItsKind_44 : decode cX3_ofItsKind 44 = .ok (.iconst 1, 1) := by decide +kernel
theorem dX3_ofItsKind_45 : decode cX3_ofItsKind 45 = .ok (.if_icmp .ne 46, 3) := by decide +kernel
theorem dX3_ofItsKind_48 : decode cX3_ofItsKind 48 = .ok (.iload_n 0, 1) := by decide +kernel
theorem dX3_ofItsKind_49 : decode cX3_ofItsKind 49 = .ok (.iconst 1, 1) := by decide +kernel
theorem dX3_ofItsKind_50 : decode cX3_ofItsKind 50 = .ok (.if_icmp .ne 41, 3) := by decide +kernel
theorem dX3_ofItsKind_53 : decode cX3_ofItsKind 53 = .ok (.iload 4, 2) := by decide +kernel
theorem dX3_ofItsKind_55 : decode cX3_ofItsKind 55 = .ok (.ifCond .eq 36, 3) := by decide +kernel
theorem dX3_ofItsKind_58 : decode cX3_ofItsKind 58 = .ok (.aload_n 3, 1) := by decide +kernel
theorem dX3_ofItsKind_59 : decode cX3_ofItsKind 59 = .ok (.arraylength, 1) := by decide +kernel
theorem dX3_ofItsKind_60 : decode cX3_ofItsKind 60 = .ok (.iconst 2, 1) := by decide +kernel
theorem dX3_ofItsKind_61 : decode cX3_ofItsKind 61 = .ok (.if_icmp .ne 30, 3) := by decide +kernel
theorem dX3_ofItsKind_64 : decode cX3_ofItsKind 64 = .ok (.aload_n 3, 1) := by decide +kernel
theorem dX3_ofItsKind_65 : decode cX3_ofItsKind 65 = .ok (.iconst 1, 1) := by decide +kernel
theorem dX3_ofItsKind_66 : decode cX3_ofItsKind 66 = .ok (.laload, 1) := by decide +kernel
theorem dX3_ofItsKind_67 : decode cX3_ofItsKind 67 = .ok (.iload_n 2, 1) := by decide +kernel
theorem dX3_ofItsKind_68 : decode cX3_ofItsKind 68 = .ok (.i2l, 1) := by decide +kernel
theorem dX3_ofItsKind_69 : decode cX3_ofItsKind 69 = .ok (.lcmp, 1) := by decide +kernel
theorem dX3_ofItsKind_70 : decode cX3_ofItsKind 70 = .ok (.ifCond .le 21, 3) := by decide +kernel
theorem dX3_ofItsKind_73 : decode cX3_ofItsKind 73 = .ok (.new 107, 3) := by decide +kernel
theorem dX3_ofItsKind_76 : decode cX3_ofItsKind 76 = .ok (.dup, 1) := by decide +kernel
theorem dX3_ofItsKind_77 : decode cX3_ofItsKind 77 = .ok (.iload_n 0, 1) := by decide +kernel
theorem dX3_ofItsKind_78 : decode cX3_ofItsKind 78 = .ok (.iload_n 1, 1) := by decide +kernel
theorem dX3_ofItsKind_79 : decode cX3_ofItsKind 79 = .ok (.iload_n 2, 1) := by decide +kernel
theorem dX3_ofItsKind_80 : decode cX3_ofItsKind 80 = .ok (.aload_n 3, 1) := by decide +kernel
theorem dX3_ofItsKind_81 : decode cX3_ofItsKind 81 = .ok (.aload_n 3, 1) := by decide +kernel
theorem dX3_ofItsKind_82 : decode cX3_ofItsKind 82 = .ok (.iconst 1, 1) := by decide +kernel
theorem dX3_ofItsKind_83 : decode cX3_ofItsKind 83 = .ok (.laload, 1) := by decide +kernel
theorem dX3_ofItsKind_84 : decode cX3_ofItsKind 84 = .ok (.iload_n 2, 1) := by decide +kernel
theorem dX3_ofItsKind_85 : decode cX3_ofItsKind 85 = .ok (.i2l, 1) := by decide +kernel
theorem dX3_ofItsKind_86 : decode cX3_ofItsKind 86 = .ok (.lsub, 1) := by decide +kernel
theorem dX3_ofItsKind_87 : decode cX3_ofItsKind 87 = .ok (.invokespecial 109, 3) := by decide +kernel
theorem dX3_ofItsKind_90 : decode cX3_ofItsKind 90 = .ok (.areturn, 1) := by decide +kernel
theorem dX3_ofItsKind_91 : decode cX3_ofItsKind 91 = .ok (.iload_n 1, 1) := by decide +kernel
theorem dX3_ofItsKind_92 : decode cX3_ofItsKind 92 = .ok (.iconst 1, 1) := by decide +kernel
theorem dX3_ofItsKind_93 : decode cX3_ofItsKind 93 = .ok (.if_icmp .ne 24, 3) := by decide +kernel
theorem dX3_ofItsKind_96 : decode cX3_ofItsKind 96 = .ok (.iload_n 0, 1) := by decide +kernel
theorem dX3_ofItsKind_97 : decode cX3_ofItsKind 97 = .ok (.ifCond .ne 20, 3) := by decide +kernel
theorem dX3_ofItsKind_100 : decode cX3_ofItsKind 100 = .ok (.iload 5, 2) := by decide +kernel
theorem dX3_ofItsKind_102 : decode cX3_ofItsKind 102 = .ok (.ifCond .eq 15, 3) := by decide +kernel
theorem dX3_ofItsKind_105 : decode cX3_ofItsKind 105 = .ok (.new 112, 3) := by decide +kernel
theorem dX3_ofItsKind_108 : decode cX3_ofItsKind 108 = .ok (.dup, 1) := by decide +kernel
theorem dX3_ofItsKind_109 : decode cX3_ofItsKind 109 = .ok (.iload_n 0, 1) := by decide +kernel
theorem dX3_ofItsKind_110 : decode cX3_ofItsKind 110 = .ok (.iload_n 1, 1) := by decide +kernel
theorem dX3_ofItsKind_111 : decode cX3_ofItsKind 111 = .ok (.iload_n 2, 1) := by decide +kernel
theorem dX3_ofItsKind_112 : decode cX3_ofItsKind 112 = .ok (.aload_n 3, 1) := by decide +kernel
theorem dX3_ofItsKind_113 : decode cX3_ofItsKind 113 = .ok (.invokespecial 114, 3) := by decide +kernel
theorem dX3_ofItsKind_116 : decode cX3_ofItsKind 116 = .ok (.areturn, 1) := by decide +kernel
theorem dX3_ofItsKind_117 : decode cX3_ofItsKind 117 = .ok (.iload_n 1, 1) := by decide +kernel
theorem dX3_ofItsKind_118 : decode cX3_ofItsKind 118 = .ok (.iconst 1, 1) := by decide +kernel
theorem dX3_ofItsKind_119 : decode cX3_ofItsKind 119 = .ok (.if_icmp .ne 28, 3) := by decide +kernel
theorem dX3_ofItsKind_122 : decode cX3_ofItsKind 122 = .ok (.iload_n 0, 1) := by decide +kernel
theorem dX3_ofItsKind_123 : decode cX3_ofItsKind 123 = .ok (.ifCond .le 24, 3) := by decide +kernel
theorem dX3_ofItsKind_126 : decode cX3_ofItsKind 126 = .ok (.iload 5, 2) := by decide +kernel
theorem dX3_ofItsKind_128 : decode cX3_ofItsKind 128 = .ok (.ifCond .eq 19, 3) := by decide +kernel
theorem dX3_ofItsKind_131 : decode cX3_ofItsKind 131 = .ok (.iload_n 2, 1) := by decide +kernel
theorem dX3_ofItsKind_132 : decode cX3_ofItsKind 132 = .ok (.ifCond .le 15, 3) := by decide +kernel
theorem dX3_ofItsKind_135 : decode cX3_ofItsKind 135 = .ok (.new 117, 3) := by decide +kernel
theorem dX3_ofItsKind_138 : decode cX3_ofItsKind 138 = .ok (.dup, 1) := by decide +kernel
theorem dX3_ofItsKind_139 : decode cX3_ofItsKind 139 = .ok (.iload_n 0, 1) := by decide +kernel
theorem dX3_ofItsKind_140 : decode cX3_ofItsKind 140 = .ok (.iload_n 1, 1) := by decide +kernel
theorem dX3_ofItsKind_141 : decode cX3_ofItsKind 141 = .ok (.iload_n 2, 1) := by decide +kernel
theorem dX3_ofItsKind_142 : decode cX3_ofItsKind 142 = .ok (.aload_n 3, 1) := by decide +kernel
theorem dX3_ofItsKind_143 : decode cX3_ofItsKind 143 = .ok (.invokespecial 119, 3) := by decide +kernel
theorem dX3_ofItsKind_146 : decode cX3_ofItsKind 146 = .ok (.areturn, 1) := by decide +kernel
theorem dX3_ofItsKind_147 : decode cX3_ofItsKind 147 = .ok (.iload_n 1, 1) := by decide +kernel
theorem dX3_ofItsKind_148 : decode cX3_ofItsKind 148 = .ok (.iconst 1, 1) := by decide +kernel
theorem dX3_ofItsKind_149 : decode cX3_ofItsKind 149 = .ok (.if_icmp .le 28, 3) := by decide +kernel
theorem dX3_ofItsKind_152 : decode cX3_ofItsKind 152 = .ok (.iload_n 0, 1) := by decide +kernel
theorem dX3_ofItsKind_153 : decode cX3_ofItsKind 153 = .ok (.ifCond .ne 24, 3) := by decide +kernel
theorem dX3_ofItsKind_156 : decode cX3_ofItsKind 156 = .ok (.iload 5, 2) := by decide +kernel
theorem dX3_ofItsKind_158 : decode cX3_ofItsKind 158 = .ok (.ifCond .eq 19, 3) := by decide +kernel
theorem dX3_ofItsKind_161 : decode cX3_ofItsKind 161 = .ok (.iload_n 2, 1) := by decide +kernel
theorem dX3_ofItsKind_162 : decode cX3_ofItsKind 162 = .ok (.ifCond .le 15, 3) := by decide +kernel
theorem dX3_ofItsKind_165 : decode cX3_ofItsKind 165 = .ok (.new 120, 3) := by decide +kernel
theorem dX3_ofItsKind_168 : decode cX3_ofItsKind 168 = .ok (.dup, 1) := by decide +kernel
theorem dX3_ofItsKind_169 : decode cX3_ofItsKind 169 = .ok (.iload_n 0, 1) := by decide +kernel
theorem dX3_ofItsKind_170 : decode cX3_ofItsKind 170 = .ok (.iload_n 1, 1) := by decide +kernel
theorem dX3_ofItsKind_171 : decode cX3_ofItsKind 171 = .ok (.iload_n 2, 1) := by decide +kernel
theorem dX3_ofItsKind_172 : decode cX3_ofItsKind 172 = .ok (.aload_n 3, 1) := by decide +kernel
theorem dX3_ofItsKind_173 : decode cX3_ofItsKind 173 = .ok (.invokespecial 122, 3) := by decide +kernel
theorem dX3_ofItsKind_176 : decode cX3_ofItsKind 176 = .ok (.areturn, 1) := by decide +kernel
theorem dX3_ofItsKind_177 : decode cX3_ofItsKind 177 = .ok (.new 26, 3) := by decide +kernel
theorem dX3_ofItsKind_180 : decode cX3_ofItsKind 180 = .ok (.dup, 1) := by decide +kernel
theorem dX3_ofItsKind_181 : decode cX3_ofItsKind 181 = .ok (.iload_n 0, 1) := by decide +kernel
theorem dX3_ofItsKind_182 : decode cX3_ofItsKind 182 = .ok (.iload_n 1, 1) := by decide +kernel
theorem dX3_ofItsKind_183 : decode cX3_ofItsKind 183 = .ok (.iload_n 2, 1) := by decide +kernel
theorem dX3_ofItsKind_184 : decode cX3_ofItsKind 184 = .ok (.aload_n 3, 1) := by decide +kernel
theorem dX3_ofItsKind_185 : decode cX3_ofItsKind 185 = .ok (.invokespecial 123, 3) := by decide +kernel
theorem dX3_ofItsKind_188 : decode cX3_ofItsKind 188 = .ok (.areturn, 1) := by decide +kernel
theorem dX4_commonStep_0 : decode cX4_commonStep 0 = .ok (.aload_n 0, 1) := by decide +kernel
theorem dX4_commonStep_1 : decode cX4_commonStep 1 = .ok (.getfield 9, 3) := by decide +kernel
theorem dX4_commonStep_4 : decode cX4_commonStep 4 = .ok (.iconst 1, 1) := by decide +kernel
theorem dX4_commonStep_5 : decode cX4_commonStep 5 = .ok (.if_icmp .lt 11, 3) := by decide +kernel
theorem dX4_commonStep_8 : decode cX4_commonStep 8 = .ok (.aload_n 1, 1) := by decide +kernel
theorem dX4_commonStep_9 : decode cX4_commonStep 9 = .ok (.getfield 9, 3) := by decide +kernel
theorem dX4_commonStep_12 : decode cX4_commonStep 12 = .ok (.iconst 1, 1) := by decide +kernel
theorem dX4_commonStep_13 : decode cX4_commonStep 13 = .ok (.if_icmp .ge 5, 3) := by decide +kernel
theorem dX4_commonStep_16 : decode cX4_commonStep 16 = .ok (.iconst (-1), 1) := by decide +kernel
theorem dX4_commonStep_17 : decode cX4_commonStep 17 = .ok (.ireturn, 1) := by decide +kernel
theorem dX4_commonStep_18 : decode cX4_commonStep 18 = .ok (.aload_n 0, 1) := by decide +kernel
theorem dX4_commonStep_19 : decode cX4_commonStep 19 = .ok (.getfield 9, 3) := by decide +kernel
theorem dX4_commonStep_22 : decode cX4_commonStep 22 = .ok (.istore_n 2, 1) := by decide +kernel
theorem dX4_commonStep_23 : decode cX4_commonStep 23 = .ok (.iload_n 2, 1) := by decide +kernel
theorem dX4_commonStep_24 : decode cX4_commonStep 24 = .ok (.bipush 60, 2) := by decide +kernel
theorem dX4_commonStep_26 : decode cX4_commonStep 26 = .ok (.if_icmp .gt 24, 3) := by decide +kernel
theorem dX4_commonStep_29 : decode cX4_commonStep 29 = .ok (.iload_n 2, 1) := by decide +kernel
theorem dX4_commonStep_30 : decode cX4_commonStep 30 = .ok (.aload_n 1, 1) := by decide +kernel
theorem dX4_commonStep_31 : decode cX4_commonStep 31 = .ok (.getfield 9, 3) := by decide +kernel
theorem dX4_commonStep_34 : decode cX4_commonStep 34 = .ok (.irem, 1) := by decide +kernel
theorem dX4_commonStep_35 : decode cX4_commonStep 35 = .ok (.ifCond .ne 5, 3) := by decide +kernel
theorem dX4_commonStep_38 : decode cX4_commonStep 38 = .ok (.iload_n 2, 1) := by decide +kernel
theorem dX4_commonStep_39 : decode cX4_commonStep 39 = .ok (.ireturn, 1) := by decide +kernel
theorem dX4_commonStep_40 : decode cX4_commonStep 40 = .ok (.iload_n 2, 1) := by decide +kernel
theorem dX4_commonStep_41 : decode cX4_commonStep 41 = .ok (.aload_n 0, 1) := by decide +kernel
theorem dX4_commonStep_42 : decode cX4_commonStep 42 = .ok (.getfield 9, 3) := by decide +kernel
theorem dX4_commonStep_45 : decode cX4_commonStep 45 = .ok (.iadd, 1) := by decide +kernel
theorem dX4_commonStep_46 : decode cX4_commonStep 46 = .ok (.istore_n 2, 1) := by decide +kernel
theorem dX4_commonStep_47 : decode cX4_commonStep 47 = .ok (.goto (-24), 3) := by decide +kernel
theorem dX4_commonStep_50 : decode cX4_commonStep 50 = .ok (.iconst (-1), 1) := by decide +kernel
theorem dX4_commonStep_51 : decode cX4_commonStep 51 = .ok (.ireturn, 1) := by decide +kernel
theorem dX4_outruns_0 : decode cX4_outruns 0 = .ok (.aload_n 0, 1) := by decide +kernel
theorem dX4_outruns_1 : decode cX4_outruns 1 = .ok (.iload_n 2, 1) := by decide +kernel
theorem dX4_outruns_2 : decode cX4_outruns 2 = .ok (.invokevirtual 15, 3) := by decide +kernel
theorem dX4_outruns_5 : decode cX4_outruns 5 = .ok (.aload_n 1, 1) := by decide +kernel
theorem dX4_outruns_6 : decode cX4_outruns 6 = .ok (.iload_n 2, 1) := by decide +kernel
theorem dX4_outruns_7 : decode cX4_outruns 7 = .ok (.invokevirtual 15, 3) := by decide +kernel
theorem dX4_outruns_10 : decode cX4_outruns 10 = .ok (.lcmp, 1) := by decide +kernel
theorem dX4_outruns_11 : decode cX4_outruns 11 = .ok (.ifCond .le 7, 3) := by decide +kernel
theorem dX4_outruns_14 : decode cX4_outruns 14 = .ok (.iconst 1, 1) := by decide +kernel
theorem dX4_outruns_15 : decode cX4_outruns 15 = .ok (.goto 4, 3) := by decide +kernel
theorem dX4_outruns_18 : decode cX4_outruns 18 = .ok (.iconst 0, 1) := by decide +kernel
theorem dX4_outruns_19 : decode cX4_outruns 19 = .ok (.ireturn, 1) := by decide +kernel
theorem dX4_settledSpan_0 : decode cX4_settledSpan 0 = .ok (.aload_n 0, 1) := by decide +kernel
theorem dX4_settledSpan_1 : decode cX4_settledSpan 1 = .ok (.getfield 19, 3) := by decide +kernel
theorem dX4_settledSpan_4 : decode cX4_settledSpan 4 = .ok (.aload_n 1, 1) := by decide +kernel
theorem dX4_settledSpan_5 : decode cX4_settledSpan 5 = .ok (.getfield 19, 3) := by decide +kernel
theorem dX4_settledSpan_8 : decode cX4_settledSpan 8 = .ok (.invokestatic 22, 3) := by decide +kernel
theorem dX4_settledSpan_11 : decode cX4_settledSpan 11 = .ok (.iload_n 2, 1) := by decide +kernel
theorem dX4_settledSpan_12 : decode cX4_settledSpan 12 = .ok (.iadd, 1) := by decide +kernel
theorem dX4_settledSpan_13 : decode cX4_settledSpan 13 = .ok (.ireturn, 1) := by decide +kernel
theorem dX4_firstUnlike_0 : decode cX4_firstUnlike 0 = .ok (.aload_n 0, 1) := by decide +kernel
theorem dX4_firstUnlike_1 : decode cX4_firstUnlike 1 = .ok (.aload_n 1, 1) := by decide +kernel
theorem dX4_firstUnlike_2 : decode cX4_firstUnlike 2 = .ok (.iload_n 2, 1) := by decide +kernel
theorem dX4_firstUnlike_3 : decode cX4_firstUnlike 3 = .ok (.invokestatic 28, 3) := by decide +kernel
theorem dX4_firstUnlike_6 : decode cX4_firstUnlike 6 = .ok (.istore_n 3, 1) := by decide +kernel
theorem dX4_firstUnlike_7 : decode cX4_firstUnlike 7 = .ok (.iconst 0, 1) := by decide +kernel
theorem dX4_firstUnlike_8 : decode cX4_firstUnlike 8 = .ok (.istore 4, 2) := by decide +kernel
theorem dX4_firstUnlike_10 : decode cX4_firstUnlike 10 = .ok (.iload 4, 2) := by decide +kernel
theorem dX4_firstUnlike_12 : decode cX4_firstUnlike 12 = .ok (.iload_n 3, 1) := by decide +kernel
theorem dX4_firstUnlike_13 : decode cX4_firstUnlike 13 = .ok (.if_icmp .gt 28, 3) := by decide +kernel
theorem dX4_firstUnlike_16 : decode cX4_firstUnlike 16 = .ok (.aload_n 0, 1) := by decide +kernel
theorem dX4_firstUnlike_17 : decode cX4_firstUnlike 17 = .ok (.iload 4, 2) := by decide +kernel
theorem dX4_firstUnlike_19 : decode cX4_firstUnlike 19 = .ok (.invokevirtual 34, 3) := by decide +kernel
theorem dX4_firstUnlike_22 : decode cX4_firstUnlike 22 = .ok (.aload_n 1, 1) := by decide +kernel
theorem dX4_firstUnlike_23 : decode cX4_firstUnlike 23 = .ok (.iload 4, 2) := by decide +kernel
theorem dX4_firstUnlike_25 : decode cX4_firstUnlike 25 = .ok (.invokevirtual 34, 3) := by decide +kernel
theorem dX4_firstUnlike_28 : decode cX4_firstUnlike 28 = .ok (.lcmp, 1) := by decide +kernel
theorem dX4_firstUnlike_29 : decode cX4_firstUnlike 29 = .ok (.ifCond .eq 6, 3) := by decide +kernel
theorem dX4_firstUnlike_32 : decode cX4_firstUnlike 32 = .ok (.iload 4, 2) := by decide +kernel
theorem dX4_firstUnlike_34 : decode cX4_firstUnlike 34 = .ok (.ireturn, 1) := by decide +kernel
theorem dX4_firstUnlike_35 : decode cX4_firstUnlike 35 = .ok (.iinc 4 1, 3) := by decide +kernel
theorem dX4_firstUnlike_38 : decode cX4_firstUnlike 38 = .ok (.goto (-28), 3) := by decide +kernel
theorem dX4_firstUnlike_41 : decode cX4_firstUnlike 41 = .ok (.iconst (-1), 1) := by decide +kernel
theorem dX4_firstUnlike_42 : decode cX4_firstUnlike 42 = .ok (.ireturn, 1) := by decide +kernel
theorem dX4_greatestLead_0 : decode cX4_greatestLead 0 = .ok (.aload_n 0, 1) := by decide +kernel
theorem dX4_greatestLead_1 : decode cX4_greatestLead 1 = .ok (.aload_n 1, 1) := by decide +kernel
theorem dX4_greatestLead_2 : decode cX4_greatestLead 2 = .ok (.iload_n 2, 1) := by decide +kernel
theorem dX4_greatestLead_3 : decode cX4_greatestLead 3 = .ok (.invokestatic 28, 3) := by decide +kernel
theorem dX4_greatestLead_6 : decode cX4_greatestLead 6 = .ok (.istore_n 3, 1) := by decide +kernel
theorem dX4_greatestLead_7 : decode cX4_greatestLead 7 = .ok (.lconst 0, 1) := by decide +kernel
theorem dX4_greatestLead_8 : decode cX4_greatestLead 8 = .ok (.lstore 4, 2) := by decide +kernel
theorem dX4_greatestLead_10 : decode cX4_greatestLead 10 = .ok (.iconst 0, 1) := by decide +kernel
theorem dX4_greatestLead_11 : decode cX4_greatestLead 11 = .ok (.istore 6, 2) := by decide +kernel
theorem dX4_greatestLead_13 : decode cX4_greatestLead 13 = .ok (.iload 6, 2) := by decide +kernel
theorem dX4_greatestLead_15 : decode cX4_greatestLead 15 = .ok (.iload_n 3, 1) := by decide +kernel
theorem dX4_greatestLead_16 : decode cX4_greatestLead 16 = .ok (.if_icmp .ge 29, 3) := by decide +kernel
theorem dX4_greatestLead_19 : decode cX4_greatestLead 19 = .ok (.lload 4, 2) := by decide +kernel
theorem dX4_greatestLead_21 : decode cX4_greatestLead 21 = .ok (.aload_n 0, 1) := by decide +kernel
theorem dX4_greatestLead_22 : decode cX4_greatestLead 22 = .ok (.iload 6, 2) := by decide +kernel
theorem dX4_greatestLead_24 : decode cX4_greatestLead 24 = .ok (.invokevirtual 34, 3) := by decide +kernel
theorem dX4_greatestLead_27 : decode cX4_greatestLead 27 = .ok (.aload_n 1, 1) := by decide +kernel
theorem dX4_greatestLead_28 : decode cX4_greatestLead 28 = .ok (.iload 6, 2) := by decide +kernel
theorem dX4_greatestLead_30 : decode cX4_greatestLead 30 = .ok (.invokevirtual 34, 3) := by decide +kernel
theorem dX4_greatestLead_33 : decode cX4_greatestLead 33 = .ok (.lsub, 1) := by decide +kernel
theorem dX4_greatestLead_34 : decode cX4_greatestLead 34 = .ok (.invokestatic 37, 3) := by decide +kernel
theorem dX4_greatestLead_37 : decode cX4_greatestLead 37 = .ok (.lstore 4, 2) := by decide +kernel
theorem dX4_greatestLead_39 : decode cX4_greatestLead 39 = .ok (.iinc 6 1, 3) := by decide +kernel
theorem dX4_greatestLead_42 : decode cX4_greatestLead 42 = .ok (.goto (-29), 3) := by decide +kernel
theorem dX4_greatestLead_45 : decode cX4_greatestLead 45 = .ok (.lload 4, 2) := by decide +kernel
theorem dX4_greatestLead_47 : decode cX4_greatestLead 47 = .ok (.lreturn, 1) := by decide +kernel
theorem dX4_longestWait_0 : decode cX4_longestWait 0 = .ok (.aload_n 0, 1) := by decide +kernel
theorem dX4_longestWait_1 : decode cX4_longestWait 1 = .ok (.aload_n 1, 1) := by decide +kernel
theorem dX4_longestWait_2 : decode cX4_longestWait 2 = .ok (.iload_n 2, 1) := by decide +kernel
theorem dX4_longestWait_3 : decode cX4_longestWait 3 = .ok (.invokestatic 28, 3) := by decide +kernel
theorem dX4_longestWait_6 : decode cX4_longestWait 6 = .ok (.istore_n 3, 1) := by decide +kernel
theorem dX4_longestWait_7 : decode cX4_longestWait 7 = .ok (.iconst 0, 1) := by decide +kernel
theorem dX4_longestWait_8 : decode cX4_longestWait 8 = .ok (.istore 4, 2) := by decide +kernel
theorem dX4_longestWait_10 : decode cX4_longestWait 10 = .ok (.iconst 0, 1) := by decide +kernel
theorem dX4_longestWait_11 : decode cX4_longestWait 11 = .ok (.istore 5, 2) := by decide +kernel
theorem dX4_longestWait_13 : decode cX4_longestWait 13 = .ok (.iload 5, 2) := by decide +kernel
theorem dX4_longestWait_15 : decode cX4_longestWait 15 = .ok (.iload_n 3, 1) := by decide +kernel
theorem dX4_longestWait_16 : decode cX4_longestWait 16 = .ok (.if_icmp .ge 60, 3) := by decide +kernel
theorem dX4_longestWait_19 : decode cX4_longestWait 19 = .ok (.aload_n 0, 1) := by decide +kernel
theorem dX4_longestWait_20 : decode cX4_longestWait 20 = .ok (.iload 5, 2) := by decide +kernel
theorem dX4_longestWait_22 : decode cX4_longestWait 22 = .ok (.invokevirtual 34, 3) := by decide +kernel
theorem dX4_longestWait_25 : decode cX4_longestWait 25 = .ok (.lstore 6, 2) := by decide +kernel
theorem dX4_longestWait_27 : decode cX4_longestWait 27 = .ok (.aload_n 1, 1) := by decide +kernel
theorem dX4_longestWait_28 : decode cX4_longestWait 28 = .ok (.iload 5, 2) := by decide +kernel
theorem dX4_longestWait_30 : decode cX4_longestWait 30 = .ok (.iload 4, 2) := by decide +kernel
theorem dX4_longestWait_32 : decode cX4_longestWait 32 = .ok (.iadd, 1) := by decide +kernel
theorem dX4_longestWait_33 : decode cX4_longestWait 33 = .ok (.invokevirtual 34, 3) := by decide +kernel
theorem dX4_longestWait_36 : decode cX4_longestWait 36 = .ok (.lload 6, 2) := by decide +kernel
theorem dX4_longestWait_38 : decode cX4_longestWait 38 = .ok (.lcmp, 1) := by decide +kernel
theorem dX4_longestWait_39 : decode cX4_longestWait 39 = .ok (.ifCond .ge 31, 3) := by decide +kernel
theorem dX4_longestWait_42 : decode cX4_longestWait 42 = .ok (.aload_n 1, 1) := by decide +kernel
theorem dX4_longestWait_43 : decode cX4_longestWait 43 = .ok (.lload 6, 2) := by decide +kernel
theorem dX4_longestWait_45 : decode cX4_longestWait 45 = .ok (.iload 5, 2) := by decide +kernel
theorem dX4_longestWait_47 : decode cX4_longestWait 47 = .ok (.ldc 40, 2) := by decide +kernel
theorem dX4_longestWait_49 : decode cX4_longestWait 49 = .ok (.iadd, 1) := by decide +kernel
theorem dX4_longestWait_50 : decode cX4_longestWait 50 = .ok (.invokevirtual 41, 3) := by decide +kernel
theorem dX4_longestWait_53 : decode cX4_longestWait 53 = .ok (.istore 8, 2) := by decide +kernel
theorem dX4_longestWait_55 : decode cX4_longestWait 55 = .ok (.iload 8, 2) := by decide +kernel
theorem dX4_longestWait_57 : decode cX4_longestWait 57 = .ok (.iconst (-1), 1) := by decide +kernel
theorem dX4_longestWait_58 : decode cX4_longestWait 58 = .ok (.if_icmp .ne 5, 3) := by decide +kernel
theorem dX4_longestWait_61 : decode cX4_longestWait 61 = .ok (.iconst (-1), 1) := by decide +kernel
theorem dX4_longestWait_62 : decode cX4_longestWait 62 = .ok (.ireturn, 1) := by decide +kernel
theorem dX4_longestWait_63 : decode cX4_longestWait 63 = .ok (.iload 8, 2) := by decide +kernel
theorem dX4_longestWait_65 : decode cX4_longestWait 65 = .ok (.iload 5, 2) := by decide +kernel
theorem dX4_longestWait_67 : decode cX4_longestWait 67 = .ok (.isub, 1) := by decide +kernel
theorem dX4_longestWait_68 : decode cX4_longestWait 68 = .ok (.istore 4, 2) := by decide +kernel
theorem dX4_longestWait_70 : decode cX4_longestWait 70 = .ok (.iinc 5 1, 3) := by decide +kernel
theorem dX4_longestWait_73 : decode cX4_longestWait 73 = .ok (.goto (-60), 3) := by decide +kernel
theorem dX4_longestWait_76 : decode cX4_longestWait 76 = .ok (.iload 4, 2) := by decide +kernel
theorem dX4_longestWait_78 : decode cX4_longestWait 78 = .ok (.ireturn, 1) := by decide +kernel
theorem dX5_init_0 : decode cX5_init 0 = .ok (.aload_n 0, 1) := by decide +kernel
theorem dX5_init_1 : decode cX5_init 1 = .ok (.iload_n 1, 1) := by decide +kernel
theorem dX5_init_2 : decode cX5_init 2 = .ok (.iload_n 2, 1) := by decide +kernel
theorem dX5_init_3 : decode cX5_init 3 = .ok (.iload_n 3, 1) := by decide +kernel
theorem dX5_init_4 : decode cX5_init 4 = .ok (.aload 4, 2) := by decide +kernel
theorem dX5_init_6 : decode cX5_init 6 = .ok (.invokespecial 3, 3) := by decide +kernel
theorem dX5_init_9 : decode cX5_init 9 = .ok (.return_, 1) := by decide +kernel
theorem dX5_kind_0 : decode cX5_kind 0 = .ok (.iconst 2, 1) := by decide +kernel
theorem dX5_kind_1 : decode cX5_kind 1 = .ok (.ireturn, 1) := by decide +kernel
theorem dX5_asked_0 : decode cX5_asked 0 = .ok (.aload_n 2, 1) := by decide +kernel
theorem dX5_asked_1 : decode cX5_asked 1 = .ok (.iconst 2, 1) := by decide +kernel
theorem dX5_asked_2 : decode cX5_asked 2 = .ok (.invokevirtual 9, 3) := by decide +kernel
theorem dX5_asked_5 : decode cX5_asked 5 = .ok (.aload_n 0, 1) := by decide +kernel
theorem dX5_asked_6 : decode cX5_asked 6 = .ok (.getfield 15, 3) := by decide +kernel
theorem dX5_asked_9 : decode cX5_asked 9 = .ok (.i2l, 1) := by decide +kernel
theorem dX5_asked_10 : decode cX5_asked 10 = .ok (.iload_n 1, 1) := by decide +kernel
theorem dX5_asked_11 : decode cX5_asked 11 = .ok (.i2l, 1) := by decide +kernel
theorem dX5_asked_12 : decode cX5_asked 12 = .ok (.lmul, 1) := by decide +kernel
theorem dX5_asked_13 : decode cX5_asked 13 = .ok (.lreturn, 1) := by decide +kernel
theorem dX6_init_0 : decode cX6_init 0 = .ok (.aload_n 0, 1) := by decide +kernel
theorem dX6_init_1 : decode cX6_init 1 = .ok (.invokespecial 3, 3) := by decide +kernel
theorem dX6_init_4 : decode cX6_init 4 = .ok (.aload_n 0, 1) := by decide +kernel
theorem dX6_init_5 : decode cX6_init 5 = .ok (.bipush 61, 2) := by decide +kernel
theorem dX6_init_7 : decode cX6_init 7 = .ok (.newarray .long, 2) := by decide +kernel
theorem dX6_init_9 : decode cX6_init 9 = .ok (.putfield 9, 3) := by decide +kernel
theorem dX6_init_12 : decode cX6_init 12 = .ok (.aload_n 0, 1) := by decide +kernel
theorem dX6_init_13 : decode cX6_init 13 = .ok (.iconst 0, 1) := by decide +kernel
theorem dX6_init_14 : decode cX6_init 14 = .ok (.putfield 15, 3) := by decide +kernel
theorem dX6_init_17 : decode cX6_init 17 = .ok (.return_, 1) := by decide +kernel
theorem dX6_isFull_0 : decode cX6_isFull 0 = .ok (.aload_n 0, 1) := by decide +kernel
theorem dX6_isFull_1 : decode cX6_isFull 1 = .ok (.getfield 15, 3) := by decide +kernel
theorem dX6_isFull_4 : decode cX6_isFull 4 = .ok (.ifCond .lt 17, 3) := by decide +kernel
theorem dX6_isFull_7 : decode cX6_isFull 7 = .ok (.aload_n 0, 1) := by decide +kernel
theorem dX6_isFull_8 : decode cX6_isFull 8 = .ok (.getfield 15, 3) := by decide +kernel
theorem dX6_isFull_11 : decode cX6_isFull 11 = .ok (.iconst 1, 1) := by decide +kernel
theorem dX6_isFull_12 : decode cX6_isFull 12 = .ok (.iadd, 1) := by decide +kernel
theorem dX6_isFull_13 : decode cX6_isFull 13 = .ok (.aload_n 0, 1) := by decide +kernel
theorem dX6_isFull_14 : decode cX6_isFull 14 = .ok (.getfield 9, 3) := by decide +kernel
theorem dX6_isFull_17 : decode cX6_isFull 17 = .ok (.arraylength, 1) := by decide +kernel
theorem dX6_isFull_18 : decode cX6_isFull 18 = .ok (.if_icmp .lt 7, 3) := by decide +kernel
theorem dX6_isFull_21 : decode cX6_isFull 21 = .ok (.iconst 1, 1) := by decide +kernel
theorem dX6_isFull_22 : decode cX6_isFull 22 = .ok (.goto 4, 3) := by decide +kernel
theorem dX6_isFull_25 : decode cX6_isFull 25 = .ok (.iconst 0, 1) := by decide +kernel
theorem dX6_isFull_26 : decode cX6_isFull 26 = .ok (.ireturn, 1) := by decide +kernel
theorem dX6_add_0 : decode cX6_add 0 = .ok (.aload_n 0, 1) := by decide +kernel
theorem dX6_add_1 : decode cX6_add 1 = .ok (.invokevirtual 19, 3) := by decide +kernel
theorem dX6_add_4 : decode cX6_add 4 = .ok (.ifCond .ne 35, 3) := by decide +kernel
theorem dX6_add_7 : decode cX6_add 7 = .ok (.aload_n 0, 1) := by decide +kernel
theorem dX6_add_8 : decode cX6_add 8 = .ok (.getfield 9, 3) := by decide +kernel
theorem dX6_add_11 : decode cX6_add 11 = .ok (.aload_n 0, 1) := by decide +kernel
theorem dX6_add_12 : decode cX6_add 12 = .ok (.getfield 15, 3) := by decide +kernel
theorem dX6_add_15 : decode cX6_add 15 = .ok (.iconst 1, 1) := by decide +kernel
theorem dX6_add_16 : decode cX6_add 16 = .ok (.iadd, 1) := by decide +kernel
theorem dX6_add_17 : decode cX6_add 17 = .ok (.aload_n 0, 1) := by decide +kernel
theorem dX6_add_18 : decode cX6_add 18 = .ok (.getfield 9, 3) := by decide +kernel
theorem dX6_add_21 : decode cX6_add 21 = .ok (.aload_n 0, 1) := by decide +kernel
theorem dX6_add_22 : decode cX6_add 22 = .ok (.getfield 15, 3) := by decide +kernel
theorem dX6_add_25 : decode cX6_add 25 = .ok (.laload, 1) := by decide +kernel
theorem dX6_add_26 : decode cX6_add 26 = .ok (.lload_n 1, 1) := by decide +kernel
theorem dX6_add_27 : decode cX6_add 27 = .ok (.ladd, 1) := by decide +kernel
theorem dX6_add_28 : decode cX6_add 28 = .ok (.lastore, 1) := by decide +kernel
theorem dX6_add_29 : decode cX6_add 29 = .ok (.aload_n 0, 1) := by decide +kernel
theorem dX6_add_30 : decode cX6_add 30 = .ok (.dup, 1) := by decide +kernel
theorem dX6_add_31 : decode cX6_add 31 = .ok (.getfield 15, 3) := by decide +kernel
theorem dX6_add_34 : decode cX6_add 34 = .ok (.iconst 1, 1) := by decide +kernel
theorem dX6_add_35 : decode cX6_add 35 = .ok (.iadd, 1) := by decide +kernel
theorem dX6_add_36 : decode cX6_add 36 = .ok (.putfield 15, 3) := by decide +kernel
theorem dX6_add_39 : decode cX6_add 39 = .ok (.return_, 1) := by decide +kernel
theorem dX6_hardestStep_0 : decode cX6_hardestStep 0 = .ok (.iload_n 1, 1) := by decide +kernel
theorem dX6_hardestStep_1 : decode cX6_hardestStep 1 = .ok (.iconst 1, 1) := by decide +kernel
theorem dX6_hardestStep_2 : decode cX6_hardestStep 2 = .ok (.if_icmp .ne 11, 3) := by decide +kernel
theorem dX6_hardestStep_5 : decode cX6_hardestStep 5 = .ok (.aload_n 0, 1) := by decide +kernel
theorem dX6_hardestStep_6 : decode cX6_hardestStep 6 = .ok (.iconst 1, 1) := by decide +kernel
theorem dX6_hardestStep_7 : decode cX6_hardestStep 7 = .ok (.invokevirtual 23, 3) := by decide +kernel
theorem dX6_hardestStep_10 : decode cX6_hardestStep 10 = .ok (.goto 16, 3) := by decide +kernel
theorem dX6_hardestStep_13 : decode cX6_hardestStep 13 = .ok (.aload_n 0, 1) := by decide +kernel
theorem dX6_hardestStep_14 : decode cX6_hardestStep 14 = .ok (.iload_n 1, 1) := by decide +kernel
theorem dX6_hardestStep_15 : decode cX6_hardestStep 15 = .ok (.invokevirtual 23, 3) := by decide +kernel
theorem dX6_hardestStep_18 : decode cX6_hardestStep 18 = .ok (.aload_n 0, 1) := by decide +kernel
theorem dX6_hardestStep_19 : decode cX6_hardestStep 19 = .ok (.iload_n 1, 1) := by decide +kernel
theorem dX6_hardestStep_20 : decode cX6_hardestStep 20 = .ok (.iconst 1, 1) := by decide +kernel
theorem dX6_hardestStep_21 : decode cX6_hardestStep 21 = .ok (.isub, 1) := by decide +kernel
theorem dX6_hardestStep_22 : decode cX6_hardestStep 22 = .ok (.invokevirtual 23, 3) := by decide +kernel
theorem dX6_hardestStep_25 : decode cX6_hardestStep 25 = .ok (.lsub, 1) := by decide +kernel
theorem dX6_hardestStep_26 : decode cX6_hardestStep 26 = .ok (.lreturn, 1) := by decide +kernel
theorem dX6_canFollow_0 : decode cX6_canFollow 0 = .ok (.iconst 1, 1) := by decide +kernel
theorem dX6_canFollow_1 : decode cX6_canFollow 1 = .ok (.istore_n 2, 1) := by decide +kernel
theorem dX6_canFollow_2 : decode cX6_canFollow 2 = .ok (.iload_n 2, 1) := by decide +kernel
theorem dX6_canFollow_3 : decode cX6_canFollow 3 = .ok (.iload_n 1, 1) := by decide +kernel
theorem dX6_canFollow_4 : decode cX6_canFollow 4 = .ok (.if_icmp .gt 23, 3) := by decide +kernel
theorem dX6_canFollow_7 : decode cX6_canFollow 7 = .ok (.aload_n 0, 1) := by decide +kernel
theorem dX6_canFollow_8 : decode cX6_canFollow 8 = .ok (.iload_n 2, 1) := by decide +kernel
theorem dX6_canFollow_9 : decode cX6_canFollow 9 = .ok (.invokestatic 29, 3) := by decide +kernel
theorem dX6_canFollow_12 : decode cX6_canFollow 12 = .ok (.ldc2_w 33, 3) := by decide +kernel
theorem dX6_canFollow_15 : decode cX6_canFollow 15 = .ok (.lcmp, 1) := by decide +kernel
theorem dX6_canFollow_16 : decode cX6_canFollow 16 = .ok (.ifCond .le 5, 3) := by decide +kernel
theorem dX6_canFollow_19 : decode cX6_canFollow 19 = .ok (.iconst 0, 1) := by decide +kernel
theorem dX6_canFollow_20 : decode cX6_canFollow 20 = .ok (.ireturn, 1) := by decide +kernel
theorem dX6_canFollow_21 : decode cX6_canFollow 21 = .ok (.iinc 2 1, 3) := by decide +kernel
theorem dX6_canFollow_24 : decode cX6_canFollow 24 = .ok (.goto (-22), 3) := by decide +kernel
theorem dX6_canFollow_27 : decode cX6_canFollow 27 = .ok (.iconst 1, 1) := by decide +kernel
theorem dX6_canFollow_28 : decode cX6_canFollow 28 = .ok (.ireturn, 1) := by decide +kernel
theorem dX6_follow_0 : decode cX6_follow 0 = .ok (.aload_n 0, 1) := by decide +kernel
theorem dX6_follow_1 : decode cX6_follow 1 = .ok (.iconst 0, 1) := by decide +kernel
theorem dX6_follow_2 : decode cX6_follow 2 = .ok (.putfield 15, 3) := by decide +kernel
theorem dX6_follow_5 : decode cX6_follow 5 = .ok (.iconst 1, 1) := by decide +kernel
theorem dX6_follow_6 : decode cX6_follow 6 = .ok (.istore_n 3, 1) := by decide +kernel
theorem dX6_follow_7 : decode cX6_follow 7 = .ok (.iload_n 3, 1) := by decide +kernel
theorem dX6_follow_8 : decode cX6_follow 8 = .ok (.iload_n 2, 1) := by decide +kernel
theorem dX6_follow_9 : decode cX6_follow 9 = .ok (.if_icmp .gt 18, 3) := by decide +kernel
theorem dX6_follow_12 : decode cX6_follow 12 = .ok (.aload_n 0, 1) := by decide +kernel
theorem dX6_follow_13 : decode cX6_follow 13 = .ok (.aload_n 1, 1) := by decide +kernel
theorem dX6_follow_14 : decode cX6_follow 14 = .ok (.iload_n 3, 1) := by decide +kernel
theorem dX6_follow_15 : decode cX6_follow 15 = .ok (.invokestatic 29, 3) := by decide +kernel
theorem dX6_follow_18 : decode cX6_follow 18 = .ok (.invokevirtual 35, 3) := by decide +kernel
theorem dX6_follow_21 : decode cX6_follow 21 = .ok (.iinc 3 1, 3) := by decide +kernel
theorem dX6_follow_24 : decode cX6_follow 24 = .ok (.goto (-17), 3) := by decide +kernel
theorem dX6_follow_27 : decode cX6_follow 27 = .ok (.return_, 1) := by decide +kernel
theorem dX6_arrived_0 : decode cX6_arrived 0 = .ok (.iload_n 1, 1) := by decide +kernel
theorem dX6_arrived_1 : decode cX6_arrived 1 = .ok (.aload_n 0, 1) := by decide +kernel
theorem dX6_arrived_2 : decode cX6_arrived 2 = .ok (.getfield 15, 3) := by decide +kernel
theorem dX6_arrived_5 : decode cX6_arrived 5 = .ok (.invokestatic 39, 3) := by decide +kernel
theorem dX6_arrived_8 : decode cX6_arrived 8 = .ok (.istore_n 2, 1) := by decide +kernel
theorem dX6_arrived_9 : decode cX6_arrived 9 = .ok (.iload_n 2, 1) := by decide +kernel
theorem dX6_arrived_10 : decode cX6_arrived 10 = .ok (.ifCond .lt 12, 3) := by decide +kernel
theorem dX6_arrived_13 : decode cX6_arrived 13 = .ok (.iload_n 2, 1) := by decide +kernel
theorem dX6_arrived_14 : decode cX6_arrived 14 = .ok (.aload_n 0, 1) := by decide +kernel
theorem dX6_arrived_15 : decode cX6_arrived 15 = .ok (.getfield 9, 3) := by decide +kernel
theorem dX6_arrived_18 : decode cX6_arrived 18 = .ok (.arraylength, 1) := by decide +kernel
theorem dX6_arrived_19 : decode cX6_arrived 19 = .ok (.if_icmp .lt 7, 3) := by decide +kernel
theorem dX6_arrived_22 : decode cX6_arrived 22 = .ok (.lconst 0, 1) := by decide +kernel
theorem dX6_arrived_23 : decode cX6_arrived 23 = .ok (.goto 9, 3) := by decide +kernel
theorem dX6_arrived_26 : decode cX6_arrived 26 = .ok (.aload_n 0, 1) := by decide +kernel
theorem dX6_arrived_27 : decode cX6_arrived 27 = .ok (.getfield 9, 3) := by decide +kernel
theorem dX6_arrived_30 : decode cX6_arrived 30 = .ok (.iload_n 2, 1) := by decide +kernel
theorem dX6_arrived_31 : decode cX6_arrived 31 = .ok (.laload, 1) := by decide +kernel
theorem dX6_arrived_32 : decode cX6_arrived 32 = .ok (.lreturn, 1) := by decide +kernel
theorem dX6_passed_0 : decode cX6_passed 0 = .ok (.aload_n 0, 1) := by decide +kernel
theorem dX6_passed_1 : decode cX6_passed 1 = .ok (.iload_n 2, 1) := by decide +kernel
theorem dX6_passed_2 : decode cX6_passed 2 = .ok (.invokevirtual 45, 3) := by decide +kernel
theorem dX6_passed_5 : decode cX6_passed 5 = .ok (.lstore_n 3, 1) := by decide +kernel
theorem dX6_passed_6 : decode cX6_passed 6 = .ok (.iconst 0, 1) := by decide +kernel
theorem dX6_passed_7 : decode cX6_passed 7 = .ok (.istore 5, 2) := by decide +kernel
theorem dX6_passed_9 : decode cX6_passed 9 = .ok (.iload 5, 2) := by decide +kernel
theorem dX6_passed_11 : decode cX6_passed 11 = .ok (.iload_n 2, 1) := by decide +kernel
theorem dX6_passed_12 : decode cX6_passed 12 = .ok (.if_icmp .gt 38, 3) := by decide +kernel
theorem dX6_passed_15 : decode cX6_passed 15 = .ok (.iload 5, 2) := by decide +kernel
theorem dX6_passed_17 : decode cX6_passed 17 = .ok (.aload_n 0, 1) := by decide +kernel
theorem dX6_passed_18 : decode cX6_passed 18 = .ok (.getfield 15, 3) := by decide +kernel
theorem dX6_passed_21 : decode cX6_passed 21 = .ok (.if_icmp .gt 29, 3) := by decide +kernel
theorem dX6_passed_24 : decode cX6_passed 24 = .ok (.lload_n 3, 1) := by decide +kernel
theorem dX6_passed_25 : decode cX6_passed 25 = .ok (.aload_n 0, 1) := by decide +kernel
theorem dX6_passed_26 : decode cX6_passed 26 = .ok (.iload 5, 2) := by decide +kernel
theorem dX6_passed_28 : decode cX6_passed 28 = .ok (.invokevirtual 45, 3) := by decide +kernel
theorem dX6_passed_31 : decode cX6_passed 31 = .ok (.aload_n 1, 1) := by decide +kernel
theorem dX6_passed_32 : decode cX6_passed 32 = .ok (.iload_n 2, 1) := by decide +kernel
theorem dX6_passed_33 : decode cX6_passed 33 = .ok (.iload 5, 2) := by decide +kernel
theorem dX6_passed_35 : decode cX6_passed 35 = .ok (.isub, 1) := by decide +kernel
theorem dX6_passed_36 : decode cX6_passed 36 = .ok (.invokevirtual 23, 3) := by decide +kernel
theorem dX6_passed_39 : decode cX6_passed 39 = .ok (.ladd, 1) := by decide +kernel
theorem dX6_passed_40 : decode cX6_passed 40 = .ok (.invokestatic 48, 3) := by decide +kernel
theorem dX6_passed_43 : decode cX6_passed 43 = .ok (.lstore_n 3, 1) := by decide +kernel
theorem dX6_passed_44 : decode cX6_passed 44 = .ok (.iinc 5 1, 3) := by decide +kernel
theorem dX6_passed_47 : decode cX6_passed 47 = .ok (.goto (-38), 3) := by decide +kernel
theorem dX6_passed_50 : decode cX6_passed 50 = .ok (.lload_n 3, 1) := by decide +kernel
theorem dX6_passed_51 : decode cX6_passed 51 = .ok (.lreturn, 1) := by decide +kernel
theorem dX6_held_0 : decode cX6_held 0 = .ok (.aload_n 0, 1) := by decide +kernel
theorem dX6_held_1 : decode cX6_held 1 = .ok (.iload_n 2, 1) := by decide +kernel
theorem dX6_held_2 : decode cX6_held 2 = .ok (.invokevirtual 45, 3) := by decide +kernel
theorem dX6_held_5 : decode cX6_held 5 = .ok (.aload_n 0, 1) := by decide +kernel
theorem dX6_held_6 : decode cX6_held 6 = .ok (.aload_n 1, 1) := by decide +kernel
theorem dX6_held_7 : decode cX6_held 7 = .ok (.iload_n 2, 1) := by decide +kernel
theorem dX6_held_8 : decode cX6_held 8 = .ok (.invokevirtual 51, 3) := by decide +kernel
theorem dX6_held_11 : decode cX6_held 11 = .ok (.lsub, 1) := by decide +kernel
theorem dX6_held_12 : decode cX6_held 12 = .ok (.lreturn, 1) := by decide +kernel
theorem dX6_lateness_0 : decode cX6_lateness 0 = .ok (.aload_n 0, 1) := by decide +kernel
theorem dX6_lateness_1 : decode cX6_lateness 1 = .ok (.iload_n 2, 1) := by decide +kernel
theorem dX6_lateness_2 : decode cX6_lateness 2 = .ok (.invokevirtual 45, 3) := by decide +kernel
theorem dX6_lateness_5 : decode cX6_lateness 5 = .ok (.lstore_n 3, 1) := by decide +kernel
theorem dX6_lateness_6 : decode cX6_lateness 6 = .ok (.iconst (-1), 1) := by decide +kernel
theorem dX6_lateness_7 : decode cX6_lateness 7 = .ok (.istore 5, 2) := by decide +kernel
theorem dX6_lateness_9 : decode cX6_lateness 9 = .ok (.bipush 8, 2) := by decide +kernel
theorem dX6_lateness_11 : decode cX6_lateness 11 = .ok (.istore 6, 2) := by decide +kernel
theorem dX6_lateness_13 : decode cX6_lateness 13 = .ok (.iload 6, 2) := by decide +kernel
theorem dX6_lateness_15 : decode cX6_lateness 15 = .ok (.ifCond .lt 44, 3) := by decide +kernel
theorem dX6_lateness_18 : decode cX6_lateness 18 = .ok (.iload 5, 2) := by decide +kernel
theorem dX6_lateness_20 : decode cX6_lateness 20 = .ok (.iconst 1, 1) := by decide +kernel
theorem dX6_lateness_21 : decode cX6_lateness 21 = .ok (.iload 6, 2) := by decide +kernel
theorem dX6_lateness_23 : decode cX6_lateness 23 = .ok (.ishl, 1) := by decide +kernel
theorem dX6_lateness_24 : decode cX6_lateness 24 = .ok (.iadd, 1) := by decide +kernel
theorem dX6_lateness_25 : decode cX6_lateness 25 = .ok (.istore 7, 2) := by decide +kernel
theorem dX6_lateness_27 : decode cX6_lateness 27 = .ok (.iload 7, 2) := by decide +kernel
theorem dX6_lateness_29 : decode cX6_lateness 29 = .ok (.sipush 500, 3) := by decide +kernel
theorem dX6_lateness_32 : decode cX6_lateness 32 = .ok (.if_icmp .gt 21, 3) := by decide +kernel
theorem dX6_lateness_35 : decode cX6_lateness 35 = .ok (.aload_n 0, 1) := by decide +kernel
theorem dX6_lateness_36 : decode cX6_lateness 36 = .ok (.aload_n 1, 1) := by decide +kernel
theorem dX6_lateness_37 : decode cX6_lateness 37 = .ok (.iload_n 2, 1) := by decide +kernel
theorem dX6_lateness_38 : decode cX6_lateness 38 = .ok (.iload 7, 2) := by decide +kernel
theorem dX6_lateness_40 : decode cX6_lateness 40 = .ok (.iadd, 1) := by decide +kernel
theorem dX6_lateness_41 : decode cX6_lateness 41 = .ok (.invokevirtual 51, 3) := by decide +kernel
theorem dX6_lateness_44 : decode cX6_lateness 44 = .ok (.lload_n 3, 1) := by decide +kernel
theorem dX6_lateness_45 : decode cX6_lateness 45 = .ok (.lcmp, 1) := by decide +kernel
theorem dX6_lateness_46 : decode cX6_lateness 46 = .ok (.ifCond .ge 7, 3) := by decide +kernel
theorem dX6_lateness_49 : decode cX6_lateness 49 = .ok (.iload 7, 2) := by decide +kernel
theorem dX6_lateness_51 : decode cX6_lateness 51 = .ok (.istore 5, 2) := by decide +kernel
theorem dX6_lateness_53 : decode cX6_lateness 53 = .ok (.iinc 6 (-1), 3) := by decide +kernel
theorem dX6_lateness_56 : decode cX6_lateness 56 = .ok (.goto (-43), 3) := by decide +kernel
theorem dX6_lateness_59 : decode cX6_lateness 59 = .ok (.iload 5, 2) := by decide +kernel
theorem dX6_lateness_61 : decode cX6_lateness 61 = .ok (.sipush 500, 3) := by decide +kernel
theorem dX6_lateness_64 : decode cX6_lateness 64 = .ok (.if_icmp .ge 10, 3) := by decide +kernel
theorem dX6_lateness_67 : decode cX6_lateness 67 = .ok (.iload 5, 2) := by decide +kernel
theorem dX6_lateness_69 : decode cX6_lateness 69 = .ok (.iconst 1, 1) := by decide +kernel
theorem dX6_lateness_70 : decode cX6_lateness 70 = .ok (.iadd, 1) := by decide +kernel
theorem dX6_lateness_71 : decode cX6_lateness 71 = .ok (.goto 4, 3) := by decide +kernel
theorem dX6_lateness_74 : decode cX6_lateness 74 = .ok (.iconst (-1), 1) := by decide +kernel
theorem dX6_lateness_75 : decode cX6_lateness 75 = .ok (.ireturn, 1) := by decide +kernel
theorem dX6_greatestHeld_0 : decode cX6_greatestHeld 0 = .ok (.lconst 0, 1) := by decide +kernel
theorem dX6_greatestHeld_1 : decode cX6_greatestHeld 1 = .ok (.lstore_n 2, 1) := by decide +kernel
theorem dX6_greatestHeld_2 : decode cX6_greatestHeld 2 = .ok (.iconst 0, 1) := by decide +kernel
theorem dX6_greatestHeld_3 : decode cX6_greatestHeld 3 = .ok (.istore 4, 2) := by decide +kernel
theorem dX6_greatestHeld_5 : decode cX6_greatestHeld 5 = .ok (.iload 4, 2) := by decide +kernel
theorem dX6_greatestHeld_7 : decode cX6_greatestHeld 7 = .ok (.aload_n 0, 1) := by decide +kernel
theorem dX6_greatestHeld_8 : decode cX6_greatestHeld 8 = .ok (.getfield 15, 3) := by decide +kernel
theorem dX6_greatestHeld_11 : decode cX6_greatestHeld 11 = .ok (.if_icmp .gt 21, 3) := by decide +kernel
theorem dX6_greatestHeld_14 : decode cX6_greatestHeld 14 = .ok (.lload_n 2, 1) := by decide +kernel
theorem dX6_greatestHeld_15 : decode cX6_greatestHeld 15 = .ok (.aload_n 0, 1) := by decide +kernel
theorem dX6_greatestHeld_16 : decode cX6_greatestHeld 16 = .ok (.aload_n 1, 1) := by decide +kernel
theorem dX6_greatestHeld_17 : decode cX6_greatestHeld 17 = .ok (.iload 4, 2) := by decide +kernel
theorem dX6_greatestHeld_19 : decode cX6_greatestHeld 19 = .ok (.invokevirtual 54, 3) := by decide +kernel
theorem dX6_greatestHeld_22 : decode cX6_greatestHeld 22 = .ok (.invokestatic 57, 3) := by decide +kernel
theorem dX6_greatestHeld_25 : decode cX6_greatestHeld 25 = .ok (.lstore_n 2, 1) := by decide +kernel
theorem dX6_greatestHeld_26 : decode cX6_greatestHeld 26 = .ok (.iinc 4 1, 3) := by decide +kernel
theorem dX6_greatestHeld_29 : decode cX6_greatestHeld 29 = .ok (.goto (-24), 3) := by decide +kernel
theorem dX6_greatestHeld_32 : decode cX6_greatestHeld 32 = .ok (.lload_n 2, 1) := by decide +kernel
theorem dX6_greatestHeld_33 : decode cX6_greatestHeld 33 = .ok (.lreturn, 1) := by decide +kernel
theorem dX6_greatestLateness_0 : decode cX6_greatestLateness 0 = .ok (.iconst 0, 1) := by decide +kernel
theorem dX6_greatestLateness_1 : decode cX6_greatestLateness 1 = .ok (.istore_n 2, 1) := by decide +kernel
theorem dX6_greatestLateness_2 : decode cX6_greatestLateness 2 = .ok (.iconst 0, 1) := by decide +kernel
theorem dX6_greatestLateness_3 : decode cX6_greatestLateness 3 = .ok (.istore_n 3, 1) := by decide +kernel
theorem dX6_greatestLateness_4 : decode cX6_greatestLateness 4 = .ok (.iload_n 3, 1) := by decide +kernel
theorem dX6_greatestLateness_5 : decode cX6_greatestLateness 5 = .ok (.aload_n 0, 1) := by decide +kernel
theorem dX6_greatestLateness_6 : decode cX6_greatestLateness 6 = .ok (.getfield 15, 3) := by decide +kernel
theorem dX6_greatestLateness_9 : decode cX6_greatestLateness 9 = .ok (.if_icmp .gt 32, 3) := by decide +kernel
theorem dX6_greatestLateness_12 : decode cX6_greatestLateness 12 = .ok (.aload_n 0, 1) := by decide +kernel
theorem dX6_greatestLateness_13 : decode cX6_greatestLateness 13 = .ok (.aload_n 1, 1) := by decide +kernel
theorem dX6_greatestLateness_14 : decode cX6_greatestLateness 14 = .ok (.iload_n 3, 1) := by decide +kernel
theorem dX6_greatestLateness_15 : decode cX6_greatestLateness 15 = .ok (.invokevirtual 60, 3) := by decide +kernel
theorem dX6_greatestLateness_18 : decode cX6_greatestLateness 18 = .ok (.istore 4, 2) := by decide +kernel
theorem dX6_greatestLateness_20 : decode cX6_greatestLateness 20 = .ok (.iload 4, 2) := by decide +kernel
theorem dX6_greatestLateness_22 : decode cX6_greatestLateness 22 = .ok (.iconst (-1), 1) := by decide +kernel
theorem dX6_greatestLateness_23 : decode cX6_greatestLateness 23 = .ok (.if_icmp .ne 5, 3) := by decide +kernel
theorem dX6_greatestLateness_26 : decode cX6_greatestLateness 26 = .ok (.iconst (-1), 1) := by decide +kernel
theorem dX6_greatestLateness_27 : decode cX6_greatestLateness 27 = .ok (.ireturn, 1) := by decide +kernel
theorem dX6_greatestLateness_28 : decode cX6_greatestLateness 28 = .ok (.iload_n 2, 1) := by decide +kernel
theorem dX6_greatestLateness_29 : decode cX6_greatestLateness 29 = .ok (.iload 4, 2) := by decide +kernel
theorem dX6_greatestLateness_31 : decode cX6_greatestLateness 31 = .ok (.invokestatic 64, 3) := by decide +kernel
theorem dX6_greatestLateness_34 : decode cX6_greatestLateness 34 = .ok (.istore_n 2, 1) := by decide +kernel
theorem dX6_greatestLateness_35 : decode cX6_greatestLateness 35 = .ok (.iinc 3 1, 3) := by decide +kernel
theorem dX6_greatestLateness_38 : decode cX6_greatestLateness 38 = .ok (.goto (-34), 3) := by decide +kernel
theorem dX6_greatestLateness_41 : decode cX6_greatestLateness 41 = .ok (.iload_n 2, 1) := by decide +kernel
theorem dX6_greatestLateness_42 : decode cX6_greatestLateness 42 = .ok (.ireturn, 1) := by decide +kernel
theorem dX6_staysWithin_0 : decode cX6_staysWithin 0 = .ok (.iconst 0, 1) := by decide +kernel
theorem dX6_staysWithin_1 : decode cX6_staysWithin 1 = .ok (.istore_n 2, 1) := by decide +kernel
theorem dX6_staysWithin_2 : decode cX6_staysWithin 2 = .ok (.iload_n 2, 1) := by decide +kernel
theorem dX6_staysWithin_3 : decode cX6_staysWithin 3 = .ok (.aload_n 0, 1) := by decide +kernel
theorem dX6_staysWithin_4 : decode cX6_staysWithin 4 = .ok (.getfield 15, 3) := by decide +kernel
theorem dX6_staysWithin_7 : decode cX6_staysWithin 7 = .ok (.if_icmp .gt 46, 3) := by decide +kernel
theorem dX6_staysWithin_10 : decode cX6_staysWithin 10 = .ok (.iconst 0, 1) := by decide +kernel
theorem dX6_staysWithin_11 : decode cX6_staysWithin 11 = .ok (.istore_n 3, 1) := by decide +kernel
theorem dX6_staysWithin_12 : decode cX6_staysWithin 12 = .ok (.iload_n 3, 1) := by decide +kernel
theorem dX6_staysWithin_13 : decode cX6_staysWithin 13 = .ok (.iload_n 2, 1) := by decide +kernel
theorem dX6_staysWithin_14 : decode cX6_staysWithin 14 = .ok (.if_icmp .gt 33, 3) := by decide +kernel
theorem dX6_staysWithin_17 : decode cX6_staysWithin 17 = .ok (.aload_n 0, 1) := by decide +kernel
theorem dX6_staysWithin_18 : decode cX6_staysWithin 18 = .ok (.iload_n 2, 1) := by decide +kernel
theorem dX6_staysWithin_19 : decode cX6_staysWithin 19 = .ok (.invokevirtual 45, 3) := by decide +kernel
theorem dX6_staysWithin_22 : decode cX6_staysWithin 22 = .ok (.aload_n 0, 1) := by decide +kernel
theorem dX6_staysWithin_23 : decode cX6_staysWithin 23 = .ok (.iload_n 3, 1) := by decide +kernel
theorem dX6_staysWithin_24 : decode cX6_staysWithin 24 = .ok (.invokevirtual 45, 3) := by decide +kernel
theorem dX6_staysWithin_27 : decode cX6_staysWithin 27 = .ok (.lsub, 1) := by decide +kernel
theorem dX6_staysWithin_28 : decode cX6_staysWithin 28 = .ok (.aload_n 1, 1) := by decide +kernel
theorem dX6_staysWithin_29 : decode cX6_staysWithin 29 = .ok (.iload_n 2, 1) := by decide +kernel
theorem dX6_staysWithin_30 : decode cX6_staysWithin 30 = .ok (.iload_n 3, 1) := by decide +kernel
theorem dX6_staysWithin_31 : decode cX6_staysWithin 31 = .ok (.isub, 1) := by decide +kernel
theorem dX6_staysWithin_32 : decode cX6_staysWithin 32 = .ok (.invokevirtual 23, 3) := by decide +kernel
theorem dX6_staysWithin_35 : decode cX6_staysWithin 35 = .ok (.lcmp, 1) := by decide +kernel
theorem dX6_staysWithin_36 : decode cX6_staysWithin 36 = .ok (.ifCond .le 5, 3) := by decide +kernel
theorem dX6_staysWithin_39 : decode cX6_staysWithin 39 = .ok (.iconst 0, 1) := by decide +kernel
theorem dX6_staysWithin_40 : decode cX6_staysWithin 40 = .ok (.ireturn, 1) := by decide +kernel
theorem dX6_staysWithin_41 : decode cX6_staysWithin 41 = .ok (.iinc 3 1, 3) := by decide +kernel
theorem dX6_staysWithin_44 : decode cX6_staysWithin 44 = .ok (.goto (-32), 3) := by decide +kernel
theorem dX6_staysWithin_47 : decode cX6_staysWithin 47 = .ok (.iinc 2 1, 3) := by decide +kernel
theorem dX6_staysWithin_50 : decode cX6_staysWithin 50 = .ok (.goto (-48), 3) := by decide +kernel
theorem dX6_staysWithin_53 : decode cX6_staysWithin 53 = .ok (.iconst 1, 1) := by decide +kernel
theorem dX6_staysWithin_54 : decode cX6_staysWithin 54 = .ok (.ireturn, 1) := by decide +kernel
theorem dX7_init_0 : decode cX7_init 0 = .ok (.aload_n 0, 1) := by decide +kernel
theorem dX7_init_1 : decode cX7_init 1 = .ok (.iload_n 1, 1) := by decide +kernel
theorem dX7_init_2 : decode cX7_init 2 = .ok (.iload_n 2, 1) := by decide +kernel
theorem dX7_init_3 : decode cX7_init 3 = .ok (.iload_n 3, 1) := by decide +kernel
theorem dX7_init_4 : decode cX7_init 4 = .ok (.aload 4, 2) := by decide +kernel
theorem dX7_init_6 : decode cX7_init 6 = .ok (.invokespecial 3, 3) := by decide +kernel
theorem dX7_init_9 : decode cX7_init 9 = .ok (.return_, 1) := by decide +kernel
theorem dX7_kind_0 : decode cX7_kind 0 = .ok (.iconst 4, 1) := by decide +kernel
theorem dX7_kind_1 : decode cX7_kind 1 = .ok (.ireturn, 1) := by decide +kernel
theorem dX7_asked_0 : decode cX7_asked 0 = .ok (.aload_n 2, 1) := by decide +kernel
theorem dX7_asked_1 : decode cX7_asked 1 = .ok (.iconst 4, 1) := by decide +kernel
theorem dX7_asked_2 : decode cX7_asked 2 = .ok (.invokevirtual 9, 3) := by decide +kernel
theorem dX7_asked_5 : decode cX7_asked 5 = .ok (.aload_n 0, 1) := by decide +kernel
theorem dX7_asked_6 : decode cX7_asked 6 = .ok (.getfield 15, 3) := by decide +kernel
theorem dX7_asked_9 : decode cX7_asked 9 = .ok (.iconst 1, 1) := by decide +kernel
theorem dX7_asked_10 : decode cX7_asked 10 = .ok (.if_icmp .ge 7, 3) := by decide +kernel
theorem dX7_asked_13 : decode cX7_asked 13 = .ok (.lconst 0, 1) := by decide +kernel
theorem dX7_asked_14 : decode cX7_asked 14 = .ok (.goto 16, 3) := by decide +kernel
theorem dX7_asked_17 : decode cX7_asked 17 = .ok (.aload_n 0, 1) := by decide +kernel
theorem dX7_asked_18 : decode cX7_asked 18 = .ok (.getfield 21, 3) := by decide +kernel
theorem dX7_asked_21 : decode cX7_asked 21 = .ok (.i2l, 1) := by decide +kernel
theorem dX7_asked_22 : decode cX7_asked 22 = .ok (.iload_n 1, 1) := by decide +kernel
theorem dX7_asked_23 : decode cX7_asked 23 = .ok (.aload_n 0, 1) := by decide +kernel
theorem dX7_asked_24 : decode cX7_asked 24 = .ok (.getfield 15, 3) := by decide +kernel
theorem dX7_asked_27 : decode cX7_asked 27 = .ok (.idiv, 1) := by decide +kernel
theorem dX7_asked_28 : decode cX7_asked 28 = .ok (.i2l, 1) := by decide +kernel
theorem dX7_asked_29 : decode cX7_asked 29 = .ok (.lmul, 1) := by decide +kernel
theorem dX7_asked_30 : decode cX7_asked 30 = .ok (.lreturn, 1) := by decide +kernel
theorem dX8_init_0 : decode cX8_init 0 = .ok (.aload_n 0, 1) := by decide +kernel
theorem dX8_init_1 : decode cX8_init 1 = .ok (.invokespecial 3, 3) := by decide +kernel
theorem dX8_init_4 : decode cX8_init 4 = .ok (.aload_n 0, 1) := by decide +kernel
theorem dX8_init_5 : decode cX8_init 5 = .ok (.iconst 5, 1) := by decide +kernel
theorem dX8_init_6 : decode cX8_init 6 = .ok (.newarray .int, 2) := by decide +kernel
theorem dX8_init_8 : decode cX8_init 8 = .ok (.putfield 9, 3) := by decide +kernel
theorem dX8_init_11 : decode cX8_init 11 = .ok (.return_, 1) := by decide +kernel
theorem dX8_mark_0 : decode cX8_mark 0 = .ok (.iload_n 1, 1) := by decide +kernel
theorem dX8_mark_1 : decode cX8_mark 1 = .ok (.ifCond .lt 22, 3) := by decide +kernel
theorem dX8_mark_4 : decode cX8_mark 4 = .ok (.iload_n 1, 1) := by decide +kernel
theorem dX8_mark_5 : decode cX8_mark 5 = .ok (.aload_n 0, 1) := by decide +kernel
theorem dX8_mark_6 : decode cX8_mark 6 = .ok (.getfield 9, 3) := by decide +kernel
theorem dX8_mark_9 : decode cX8_mark 9 = .ok (.arraylength, 1) := by decide +kernel
theorem dX8_mark_10 : decode cX8_mark 10 = .ok (.if_icmp .ge 13, 3) := by decide +kernel
theorem dX8_mark_13 : decode cX8_mark 13 = .ok (.aload_n 0, 1) := by decide +kernel
theorem dX8_mark_14 : decode cX8_mark 14 = .ok (.getfield 9, 3) := by decide +kernel
theorem dX8_mark_17 : decode cX8_mark 17 = .ok (.iload_n 1, 1) := by decide +kernel
theorem dX8_mark_18 : decode cX8_mark 18 = .ok (.dup2, 1) := by decide +kernel
theorem dX8_mark_19 : decode cX8_mark 19 = .ok (.iaload, 1) := by decide +kernel
theorem dX8_mark_20 : decode cX8_mark 20 = .ok (.iconst 1, 1) := by decide +kernel
theorem dX8_mark_21 : decode cX8_mark 21 = .ok (.iadd, 1) := by decide +kernel
theorem dX8_mark_22 : decode cX8_mark 22 = .ok (.iastore, 1) := by decide +kernel
theorem dX8_mark_23 : decode cX8_mark 23 = .ok (.return_, 1) := by decide +kernel
theorem dX8_marks_0 : decode cX8_marks 0 = .ok (.iload_n 1, 1) := by decide +kernel
theorem dX8_marks_1 : decode cX8_marks 1 = .ok (.ifCond .lt 12, 3) := by decide +kernel
theorem dX8_marks_4 : decode cX8_marks 4 = .ok (.iload_n 1, 1) := by decide +kernel
theorem dX8_marks_5 : decode cX8_marks 5 = .ok (.aload_n 0, 1) := by decide +kernel
theorem dX8_marks_6 : decode cX8_marks 6 = .ok (.getfield 9, 3) := by decide +kernel
theorem dX8_marks_9 : decode cX8_marks 9 = .ok (.arraylength, 1) := by decide +kernel
theorem dX8_marks_10 : decode cX8_marks 10 = .ok (.if_icmp .lt 7, 3) := by decide +kernel
theorem dX8_marks_13 : decode cX8_marks 13 = .ok (.iconst 0, 1) := by decide +kernel
theorem dX8_marks_14 : decode cX8_marks 14 = .ok (.goto 9, 3) := by decide +kernel
theorem dX8_marks_17 : decode cX8_marks 17 = .ok (.aload_n 0, 1) := by decide +kernel
theorem dX8_marks_18 : decode cX8_marks 18 = .ok (.getfield 9, 3) := by decide +kernel
theorem dX8_marks_21 : decode cX8_marks 21 = .ok (.iload_n 1, 1) := by decide +kernel
theorem dX8_marks_22 : decode cX8_marks 22 = .ok (.iaload, 1) := by decide +kernel
theorem dX8_marks_23 : decode cX8_marks 23 = .ok (.ireturn, 1) := by decide +kernel
theorem dX9_init_0 : decode cX9_init 0 = .ok (.aload_n 0, 1) := by decide +kernel
theorem dX9_init_1 : decode cX9_init 1 = .ok (.invokespecial 1, 3) := by decide +kernel
theorem dX9_init_4 : decode cX9_init 4 = .ok (.aload_n 0, 1) := by decide +kernel
theorem dX9_init_5 : decode cX9_init 5 = .ok (.bipush 60, 2) := by decide +kernel
theorem dX9_init_7 : decode cX9_init 7 = .ok (.anewarray 9, 3) := by decide +kernel
theorem dX9_init_10 : decode cX9_init 10 = .ok (.putfield 11, 3) := by decide +kernel
theorem dX9_init_13 : decode cX9_init 13 = .ok (.aload_n 0, 1) := by decide +kernel
theorem dX9_init_14 : decode cX9_init 14 = .ok (.iconst 0, 1) := by decide +kernel
theorem dX9_init_15 : decode cX9_init 15 = .ok (.putfield 15, 3) := by decide +kernel
theorem dX9_init_18 : decode cX9_init 18 = .ok (.aload_n 0, 1) := by decide +kernel
theorem dX9_init_19 : decode cX9_init 19 = .ok (.iconst 0, 1) := by decide +kernel
theorem dX9_init_20 : decode cX9_init 20 = .ok (.putfield 19, 3) := by decide +kernel
theorem dX9_init_23 : decode cX9_init 23 = .ok (.aload_n 0, 1) := by decide +kernel
theorem dX9_init_24 : decode cX9_init 24 = .ok (.sipush 300, 3) := by decide +kernel
theorem dX9_init_27 : decode cX9_init 27 = .ok (.newarray .long, 2) := by decide +kernel
theorem dX9_init_29 : decode cX9_init 29 = .ok (.putfield 23, 3) := by decide +kernel
theorem dX9_init_32 : decode cX9_init 32 = .ok (.aload_n 0, 1) := by decide +kernel
theorem dX9_init_33 : decode cX9_init 33 = .ok (.iconst 0, 1) := by decide +kernel
theorem dX9_init_34 : decode cX9_init 34 = .ok (.putfield 27, 3) := by decide +kernel
theorem dX9_init_37 : decode cX9_init 37 = .ok (.aload_n 0, 1) := by decide +kernel
theorem dX9_init_38 : decode cX9_init 38 = .ok (.new 30, 3) := by decide +kernel
theorem dX9_init_41 : decode cX9_init 41 = .ok (.dup, 1) := by decide +kernel
theorem dX9_init_42 : decode cX9_init 42 = .ok (.invokespecial 32, 3) := by decide +kernel
theorem dX9_init_45 : decode cX9_init 45 = .ok (.putfield 33, 3) := by decide +kernel
theorem dX9_init_48 : decode cX9_init 48 = .ok (.aload_n 0, 1) := by decide +kernel
theorem dX9_init_49 : decode cX9_init 49 = .ok (.iconst (-1), 1) := by decide +kernel
theorem dX9_init_50 : decode cX9_init 50 = .ok (.putfield 37, 3) := by decide +kernel
theorem dX9_init_53 : decode cX9_init 53 = .ok (.aload_n 0, 1) := by decide +kernel
theorem dX9_init_54 : decode cX9_init 54 = .ok (.new 40, 3) := by decide +kernel
theorem dX9_init_57 : decode cX9_init 57 = .ok (.dup, 1) := by decide +kernel
theorem dX9_init_58 : decode cX9_init 58 = .ok (.invokespecial 42, 3) := by decide +kernel
theorem dX9_init_61 : decode cX9_init 61 = .ok (.putfield 43, 3) := by decide +kernel
theorem dX9_init_64 : decode cX9_init 64 = .ok (.aload_n 0, 1) := by decide +kernel
theorem dX9_init_65 : decode cX9_init 65 = .ok (.new 47, 3) := by decide +kernel
theorem dX9_init_68 : decode cX9_init 68 = .ok (.dup, 1) := by decide +kernel
theorem dX9_init_69 : decode cX9_init 69 = .ok (.invokespecial 49, 3) := by decide +kernel
theorem dX9_init_72 : decode cX9_init 72 = .ok (.putfield 50, 3) := by decide +kernel
theorem dX9_init_75 : decode cX9_init 75 = .ok (.aload_n 0, 1) := by decide +kernel
theorem dX9_init_76 : decode cX9_init 76 = .ok (.iconst 0, 1) := by decide +kernel
theorem dX9_init_77 : decode cX9_init 77 = .ok (.putfield 54, 3) := by decide +kernel
theorem dX9_init_80 : decode cX9_init 80 = .ok (.return_, 1) := by decide +kernel
theorem dX9_put_0 : decode cX9_put 0 = .ok (.lload_n 1, 1) := by decide +kernel
theorem dX9_put_1 : decode cX9_put 1 = .ok (.lconst 0, 1) := by decide +kernel
theorem dX9_put_2 : decode cX9_put 2 = .ok (.lcmp, 1) := by decide +kernel
theorem dX9_put_3 : decode cX9_put 3 = .ok (.ifCond .lt 11, 3) := by decide +kernel
theorem dX9_put_6 : decode cX9_put 6 = .ok (.lload_n 1, 1) := by decide +kernel
theorem dX9_put_7 : decode cX9_put 7 = .ok (.ldc2_w 57, 3) := by decide +kernel
theorem dX9_put_10 : decode cX9_put 10 = .ok (.lcmp, 1) := by decide +kernel
theorem dX9_put_11 : decode cX9_put 11 = .ok (.ifCond .le 9, 3) := by decide +kernel
theorem dX9_put_14 : decode cX9_put 14 = .ok (.aload_n 0, 1) := by decide +kernel
theorem dX9_put_15 : decode cX9_put 15 = .ok (.iconst (-1), 1) := by decide +kernel
theorem dX9_put_16 : decode cX9_put 16 = .ok (.invokevirtual 59, 3) := by decide +kernel
theorem dX9_put_19 : decode cX9_put 19 = .ok (.ireturn, 1) := by decide +kernel
theorem dX9_put_20 : decode cX9_put 20 = .ok (.aload_n 0, 1) := by decide +kernel
theorem dX9_put_21 : decode cX9_put 21 = .ok (.getfield 27, 3) := by decide +kernel
theorem dX9_put_24 : decode cX9_put 24 = .ok (.aload_n 0, 1) := by decide +kernel
theorem dX9_put_25 : decode cX9_put 25 = .ok (.getfield 23, 3) := by decide +kernel
theorem dX9_put_28 : decode cX9_put 28 = .ok (.arraylength, 1) := by decide +kernel
theorem dX9_put_29 : decode cX9_put 29 = .ok (.if_icmp .lt 10, 3) := by decide +kernel
theorem dX9_put_32 : decode cX9_put 32 = .ok (.aload_n 0, 1) := by decide +kernel
theorem dX9_put_33 : decode cX9_put 33 = .ok (.bipush (-3), 2) := by decide +kernel
theorem dX9_put_35 : decode cX9_put 35 = .ok (.invokevirtual 59, 3) := by decide +kernel
theorem dX9_put_38 : decode cX9_put 38 = .ok (.ireturn, 1) := by decide +kernel
theorem dX9_put_39 : decode cX9_put 39 = .ok (.aload_n 0, 1) := by decide +kernel
theorem dX9_put_40 : decode cX9_put 40 = .ok (.getfield 23, 3) := by decide +kernel
theorem dX9_put_43 : decode cX9_put 43 = .ok (.aload_n 0, 1) := by decide +kernel
theorem dX9_put_44 : decode cX9_put 44 = .ok (.getfield 27, 3) := by decide +kernel
theorem dX9_put_47 : decode cX9_put 47 = .ok (.lload_n 1, 1) := by decide +kernel
theorem dX9_put_48 : decode cX9_put 48 = .ok (.lastore, 1) := by decide +kernel
theorem dX9_put_49 : decode cX9_put 49 = .ok (.aload_n 0, 1) := by decide +kernel
theorem dX9_put_50 : decode cX9_put 50 = .ok (.dup, 1) := by decide +kernel
theorem dX9_put_51 : decode cX9_put 51 = .ok (.getfield 27, 3) := by decide +kernel
theorem dX9_put_54 : decode cX9_put 54 = .ok (.iconst 1, 1) := by decide +kernel
theorem dX9_put_55 : decode cX9_put 55 = .ok (.iadd, 1) := by decide +kernel
theorem dX9_put_56 : decode cX9_put 56 = .ok (.putfield 27, 3) := by decide +kernel
theorem dX9_put_59 : decode cX9_put 59 = .ok (.aload_n 0, 1) := by decide +kernel
theorem dX9_put_60 : decode cX9_put 60 = .ok (.aload_n 0, 1) := by decide +kernel
theorem dX9_put_61 : decode cX9_put 61 = .ok (.getfield 27, 3) := by decide +kernel
theorem dX9_put_64 : decode cX9_put 64 = .ok (.invokevirtual 63, 3) := by decide +kernel
theorem dX9_put_67 : decode cX9_put 67 = .ok (.ireturn, 1) := by decide +kernel
theorem dX9_draw_0 : decode cX9_draw 0 = .ok (.iload_n 1, 1) := by decide +kernel
theorem dX9_draw_1 : decode cX9_draw 1 = .ok (.iconst 1, 1) := by decide +kernel
theorem dX9_draw_2 : decode cX9_draw 2 = .ok (.if_icmp .lt 20, 3) := by decide +kernel
theorem dX9_draw_5 : decode cX9_draw 5 = .ok (.iload_n 1, 1) := by decide +kernel
theorem dX9_draw_6 : decode cX9_draw 6 = .ok (.sipush 300, 3) := by decide +kernel
theorem dX9_draw_9 : decode cX9_draw 9 = .ok (.if_icmp .gt 13, 3) := by decide +kernel
theorem dX9_draw_12 : decode cX9_draw 12 = .ok (.iload_n 3, 1) := by decide +kernel
theorem dX9_draw_13 : decode cX9_draw 13 = .ok (.ifCond .lt 9, 3) := by decide +kernel
theorem dX9_draw_16 : decode cX9_draw 16 = .ok (.iload_n 3, 1) := by decide +kernel
theorem dX9_draw_17 : decode cX9_draw 17 = .ok (.ldc 66, 2) := by decide +kernel
theorem dX9_draw_19 : decode cX9_draw 19 = .ok (.if_icmp .le 9, 3) := by decide +kernel
theorem dX9_draw_22 : decode cX9_draw 22 = .ok (.aload_n 0, 1) := by decide +kernel
theorem dX9_draw_23 : decode cX9_draw 23 = .ok (.iconst (-1), 1) := by decide +kernel
theorem dX9_draw_24 : decode cX9_draw 24 = .ok (.invokevirtual 59, 3) := by decide +kernel
theorem dX9_draw_27 : decode cX9_draw 27 = .ok (.ireturn, 1) := by decide +kernel
theorem dX9_draw_28 : decode cX9_draw 28 = .ok (.iload_n 1, 1) := by decide +kernel
theorem dX9_draw_29 : decode cX9_draw 29 = .ok (.aload_n 0, 1) := by decide +kernel
theorem dX9_draw_30 : decode cX9_draw 30 = .ok (.getfield 23, 3) := by decide +kernel
theorem dX9_draw_33 : decode cX9_draw 33 = .ok (.arraylength, 1) := by decide +kernel
theorem dX9_draw_34 : decode cX9_draw 34 = .ok (.aload_n 0, 1) := by decide +kernel
theorem dX9_draw_35 : decode cX9_draw 35 = .ok (.getfield 27, 3) := by decide +kernel
theorem dX9_draw_38 : decode cX9_draw 38 = .ok (.isub, 1) := by decide +kernel
theorem dX9_draw_39 : decode cX9_draw 39 = .ok (.if_icmp .le 10, 3) := by decide +kernel
theorem dX9_draw_42 : decode cX9_draw 42 = .ok (.aload_n 0, 1) := by decide +kernel
theorem dX9_draw_43 : decode cX9_draw 43 = .ok (.bipush (-3), 2) := by decide +kernel
theorem dX9_draw_45 : decode cX9_draw 45 = .ok (.invokevirtual 59, 3) := by decide +kernel
theorem dX9_draw_48 : decode cX9_draw 48 = .ok (.ireturn, 1) := by decide +kernel
theorem dX9_draw_49 : decode cX9_draw 49 = .ok (.iload_n 2, 1) := by decide +kernel
theorem dX9_draw_50 : decode cX9_draw 50 = .ok (.i2l, 1) := by decide +kernel
theorem dX9_draw_51 : decode cX9_draw 51 = .ok (.lstore 4, 2) := by decide +kernel
theorem dX9_draw_53 : decode cX9_draw 53 = .ok (.aload_n 0, 1) := by decide +kernel
theorem dX9_draw_54 : decode cX9_draw 54 = .ok (.getfield 27, 3) := by decide +kernel
theorem dX9_draw_57 : decode cX9_draw 57 = .ok (.ifCond .le 17, 3) := by decide +kernel
theorem dX9_draw_60 : decode cX9_draw 60 = .ok (.aload_n 0, 1) := by decide +kernel
theorem dX9_draw_61 : decode cX9_draw 61 = .ok (.getfield 23, 3) := by decide +kernel
theorem dX9_draw_64 : decode cX9_draw 64 = .ok (.aload_n 0, 1) := by decide +kernel
theorem dX9_draw_65 : decode cX9_draw 65 = .ok (.getfield 27, 3) := by decide +kernel
theorem dX9_draw_68 : decode cX9_draw 68 = .ok (.iconst 1, 1) := by decide +kernel
theorem dX9_draw_69 : decode cX9_draw 69 = .ok (.isub, 1) := by decide +kernel
theorem dX9_draw_70 : decode cX9_draw 70 = .ok (.laload, 1) := by decide +kernel
theorem dX9_draw_71 : decode cX9_draw 71 = .ok (.goto 4, 3) := by decide +kernel
theorem dX9_draw_74 : decode cX9_draw 74 = .ok (.lconst 0, 1) := by decide +kernel
theorem dX9_draw_75 : decode cX9_draw 75 = .ok (.lstore 6, 2) := by decide +kernel
theorem dX9_draw_77 : decode cX9_draw 77 = .ok (.iconst 0, 1) := by decide +kernel
theorem dX9_draw_78 : decode cX9_draw 78 = .ok (.istore 8, 2) := by decide +kernel
theorem dX9_draw_80 : decode cX9_draw 80 = .ok (.iload 8, 2) := by decide +kernel
theorem dX9_draw_82 : decode cX9_draw 82 = .ok (.iload_n 1, 1) := by decide +kernel
theorem dX9_draw_83 : decode cX9_draw 83 = .ok (.if_icmp .ge 73, 3) := by decide +kernel
theorem dX9_draw_86 : decode cX9_draw 86 = .ok (.aload_n 0, 1) := by decide +kernel
theorem dX9_draw_87 : decode cX9_draw 87 = .ok (.getfield 27, 3) := by decide +kernel
theorem dX9_draw_90 : decode cX9_draw 90 = .ok (.aload_n 0, 1) := by decide +kernel
theorem dX9_draw_91 : decode cX9_draw 91 = .ok (.getfield 23, 3) := by decide +kernel
theorem dX9_draw_94 : decode cX9_draw 94 = .ok (.arraylength, 1) := by decide +kernel
theorem dX9_draw_95 : decode cX9_draw 95 = .ok (.if_icmp .ge 61, 3) := by decide +kernel
theorem dX9_draw_98 : decode cX9_draw 98 = .ok (.lload 4, 2) := by decide +kernel
theorem dX9_draw_100 : decode cX9_draw 100 = .ok (.ldc2_w 67, 3) := by decide +kernel
theorem dX9_draw_103 : decode cX9_draw 103 = .ok (.lmul, 1) := by decide +kernel
theorem dX9_draw_104 : decode cX9_draw 104 = .ok (.ldc2_w 69, 3) := by decide +kernel
theorem dX9_draw_107 : decode cX9_draw 107 = .ok (.ladd, 1) := by decide +kernel
theorem dX9_draw_108 : decode cX9_draw 108 = .ok (.ldc2_w 71, 3) := by decide +kernel
theorem dX9_draw_111 : decode cX9_draw 111 = .ok (.land, 1) := by decide +kernel
theorem dX9_draw_112 : decode cX9_draw 112 = .ok (.lstore 4, 2) := by decide +kernel
theorem dX9_draw_114 : decode cX9_draw 114 = .ok (.lload 6, 2) := by decide +kernel
theorem dX9_draw_116 : decode cX9_draw 116 = .ok (.lload 4, 2) := by decide +kernel
theorem dX9_draw_118 : decode cX9_draw 118 = .ok (.bipush 8, 2) := by decide +kernel
theorem dX9_draw_120 : decode cX9_draw 120 = .ok (.lshr, 1) := by decide +kernel
theorem dX9_draw_121 : decode cX9_draw 121 = .ok (.iload_n 3, 1) := by decide +kernel
theorem dX9_draw_122 : decode cX9_draw 122 = .ok (.iconst 1, 1) := by decide +kernel
theorem dX9_draw_123 : decode cX9_draw 123 = .ok (.iadd, 1) := by decide +kernel
theorem dX9_draw_124 : decode cX9_draw 124 = .ok (.i2l, 1) := by decide +kernel
theorem dX9_draw_125 : decode cX9_draw 125 = .ok (.lrem, 1) := by decide +kernel
theorem dX9_draw_126 : decode cX9_draw 126 = .ok (.ladd, 1) := by decide +kernel
theorem dX9_draw_127 : decode cX9_draw 127 = .ok (.lstore 6, 2) := by decide +kernel
theorem dX9_draw_129 : decode cX9_draw 129 = .ok (.aload_n 0, 1) := by decide +kernel
theorem dX9_draw_130 : decode cX9_draw 130 = .ok (.getfield 23, 3) := by decide +kernel
theorem dX9_draw_133 : decode cX9_draw 133 = .ok (.aload_n 0, 1) := by decide +kernel
theorem dX9_draw_134 : decode cX9_draw 134 = .ok (.getfield 27, 3) := by decide +kernel
theorem dX9_draw_137 : decode cX9_draw 137 = .ok (.lload 6, 2) := by decide +kernel
theorem dX9_draw_139 : decode cX9_draw 139 = .ok (.lastore, 1) := by decide +kernel
theorem dX9_draw_140 : decode cX9_draw 140 = .ok (.aload_n 0, 1) := by decide +kernel
theorem dX9_draw_141 : decode cX9_draw 141 = .ok (.dup, 1) := by decide +kernel
theorem dX9_draw_142 : decode cX9_draw 142 = .ok (.getfield 27, 3) := by decide +kernel
theorem dX9_draw_145 : decode cX9_draw 145 = .ok (.iconst 1, 1) := by decide +kernel
theorem dX9_draw_146 : decode cX9_draw 146 = .ok (.iadd, 1) := by decide +kernel
theorem dX9_draw_147 : decode cX9_draw 147 = .ok (.putfield 27, 3) := by decide +kernel
theorem dX9_draw_150 : decode cX9_draw 150 = .ok (.iinc 8 1, 3) := by decide +kernel
theorem dX9_draw_153 : decode cX9_draw 153 = .ok (.goto (-73), 3) := by decide +kernel
theorem dX9_draw_156 : decode cX9_draw 156 = .ok (.aload_n 0, 1) := by decide +kernel
theorem dX9_draw_157 : decode cX9_draw 157 = .ok (.aload_n 0, 1) := by decide +kernel
theorem dX9_draw_158 : decode cX9_draw 158 = .ok (.getfield 27, 3) := by decide +kernel
theorem dX9_draw_161 : decode cX9_draw 161 = .ok (.invokevirtual 63, 3) := by decide +kernel
theorem dX9_draw_164 : decode cX9_draw 164 = .ok (.ireturn, 1) := by decide +kernel
theorem dX9_drop_0 : decode cX9_drop 0 = .ok (.aload_n 0, 1) := by decide +kernel
theorem dX9_drop_1 : decode cX9_drop 1 = .ok (.getfield 27, 3) := by decide +kernel
theorem dX9_drop_4 : decode cX9_drop 4 = .ok (.istore_n 1, 1) := by decide +kernel
theorem dX9_drop_5 : decode cX9_drop 5 = .ok (.aload_n 0, 1) := by decide +kernel
theorem dX9_drop_6 : decode cX9_drop 6 = .ok (.iconst 0, 1) := by decide +kernel
theorem dX9_drop_7 : decode cX9_drop 7 = .ok (.putfield 27, 3) := by decide +kernel
theorem dX9_drop_10 : decode cX9_drop 10 = .ok (.aload_n 0, 1) := by decide +kernel
theorem dX9_drop_11 : decode cX9_drop 11 = .ok (.iload_n 1, 1) := by decide +kernel
theorem dX9_drop_12 : decode cX9_drop 12 = .ok (.invokevirtual 63, 3) := by decide +kernel
theorem dX9_drop_15 : decode cX9_drop 15 = .ok (.ireturn, 1) := by decide +kernel
theorem dX9_curve_0 : decode cX9_curve 0 = .ok (.iload_n 1, 1) := by decide +kernel
theorem dX9_curve_1 : decode cX9_curve 1 = .ok (.iconst 1, 1) := by decide +kernel
theorem dX9_curve_2 : decode cX9_curve 2 = .ok (.if_icmp .lt 19, 3) := by decide +kernel
theorem dX9_curve_5 : decode cX9_curve 5 = .ok (.iload_n 1, 1) := by decide +kernel
theorem dX9_curve_6 : decode cX9_curve 6 = .ok (.bipush 60, 2) := by decide +kernel
theorem dX9_curve_8 : decode cX9_curve 8 = .ok (.if_icmp .gt 13, 3) := by decide +kernel
theorem dX9_curve_11 : decode cX9_curve 11 = .ok (.iload_n 2, 1) := by decide +kernel
theorem dX9_curve_12 : decode cX9_curve 12 = .ok (.ifCond .lt 9, 3) := by decide +kernel
theorem dX9_curve_15 : decode cX9_curve 15 = .ok (.iload_n 2, 1) := by decide +kernel
theorem dX9_curve_16 : decode cX9_curve 16 = .ok (.ldc 73, 2) := by decide +kernel
theorem dX9_curve_18 : decode cX9_curve 18 = .ok (.if_icmp .le 9, 3) := by decide +kernel
theorem dX9_curve_21 : decode cX9_curve 21 = .ok (.aload_n 0, 1) := by decide +kernel
theorem dX9_curve_22 : decode cX9_curve 22 = .ok (.iconst (-1), 1) := by decide +kernel
theorem dX9_curve_23 : decode cX9_curve 23 = .ok (.invokevirtual 59, 3) := by decide +kernel
theorem dX9_curve_26 : decode cX9_curve 26 = .ok (.ireturn, 1) := by decide +kernel
theorem dX9_curve_27 : decode cX9_curve 27 = .ok (.aload_n 0, 1) := by decide +kernel
theorem dX9_curve_28 : decode cX9_curve 28 = .ok (.iload_n 1, 1) := by decide +kernel
theorem dX9_curve_29 : decode cX9_curve 29 = .ok (.iload_n 2, 1) := by decide +kernel
theorem dX9_curve_30 : decode cX9_curve 30 = .ok (.invokevirtual 74, 3) := by decide +kernel
theorem dX9_curve_33 : decode cX9_curve 33 = .ok (.ifCond .ne 10, 3) := by decide +kernel
theorem dX9_curve_36 : decode cX9_curve 36 = .ok (.aload_n 0, 1) := by decide +kernel
theorem dX9_curve_37 : decode cX9_curve 37 = .ok (.bipush (-2), 2) := by decide +kernel
theorem dX9_curve_39 : decode cX9_curve 39 = .ok (.invokevirtual 59, 3) := by decide +kernel
theorem dX9_curve_42 : decode cX9_curve 42 = .ok (.ireturn, 1) := by decide +kernel
theorem dX9_curve_43 : decode cX9_curve 43 = .ok (.aload_n 0, 1) := by decide +kernel
theorem dX9_curve_44 : decode cX9_curve 44 = .ok (.getfield 15, 3) := by decide +kernel
theorem dX9_curve_47 : decode cX9_curve 47 = .ok (.aload_n 0, 1) := by decide +kernel
theorem dX9_curve_48 : decode cX9_curve 48 = .ok (.getfield 11, 3) := by decide +kernel
theorem dX9_curve_51 : decode cX9_curve 51 = .ok (.arraylength, 1) := by decide +kernel
theorem dX9_curve_52 : decode cX9_curve 52 = .ok (.if_icmp .lt 10, 3) := by decide +kernel
theorem dX9_curve_55 : decode cX9_curve 55 = .ok (.aload_n 0, 1) := by decide +kernel
theorem dX9_curve_56 : decode cX9_curve 56 = .ok (.bipush (-3), 2) := by decide +kernel
theorem dX9_curve_58 : decode cX9_curve 58 = .ok (.invokevirtual 59, 3) := by decide +kernel
theorem dX9_curve_61 : decode cX9_curve 61 = .ok (.ireturn, 1) := by decide +kernel
theorem dX9_curve_62 : decode cX9_curve 62 = .ok (.aload_n 0, 1) := by decide +kernel
theorem dX9_curve_63 : decode cX9_curve 63 = .ok (.getfield 50, 3) := by decide +kernel
theorem dX9_curve_66 : decode cX9_curve 66 = .ok (.aload_n 0, 1) := by decide +kernel
theorem dX9_curve_67 : decode cX9_curve 67 = .ok (.getfield 23, 3) := by decide +kernel
theorem dX9_curve_70 : decode cX9_curve 70 = .ok (.aload_n 0, 1) := by decide +kernel
theorem dX9_curve_71 : decode cX9_curve 71 = .ok (.getfield 27, 3) := by decide +kernel
theorem dX9_curve_74 : decode cX9_curve 74 = .ok (.iload_n 1, 1) := by decide +kernel
theorem dX9_curve_75 : decode cX9_curve 75 = .ok (.iload_n 2, 1) := by decide +kernel
theorem dX9_curve_76 : decode cX9_curve 76 = .ok (.invokevirtual 78, 3) := by decide +kernel
theorem dX9_curve_79 : decode cX9_curve 79 = .ok (.astore_n 3, 1) := by decide +kernel
theorem dX9_curve_80 : decode cX9_curve 80 = .ok (.aload_n 3, 1) := by decide +kernel
theorem dX9_curve_81 : decode cX9_curve 81 = .ok (.ifnull 8, 3) := by decide +kernel
theorem dX9_curve_84 : decode cX9_curve 84 = .ok (.aload_n 0, 1) := by decide +kernel
theorem dX9_curve_85 : decode cX9_curve 85 = .ok (.iconst 0, 1) := by decide +kernel
theorem dX9_curve_86 : decode cX9_curve 86 = .ok (.putfield 27, 3) := by decide +kernel
theorem dX9_curve_89 : decode cX9_curve 89 = .ok (.aload_n 0, 1) := by decide +kernel
theorem dX9_curve_90 : decode cX9_curve 90 = .ok (.aload_n 3, 1) := by decide +kernel
theorem dX9_curve_91 : decode cX9_curve 91 = .ok (.invokevirtual 82, 3) := by decide +kernel
theorem dX9_curve_94 : decode cX9_curve 94 = .ok (.ireturn, 1) := by decide +kernel
theorem dX9_ray_0 : decode cX9_ray 0 = .ok (.iload_n 1, 1) := by decide +kernel
theorem dX9_ray_1 : decode cX9_ray 1 = .ok (.ifCond .lt 9, 3) := by decide +kernel
theorem dX9_ray_4 : decode cX9_ray 4 = .ok (.iload_n 1, 1) := by decide +kernel
theorem dX9_ray_5 : decode cX9_ray 5 = .ok (.ldc 73, 2) := by decide +kernel
theorem dX9_ray_7 : decode cX9_ray 7 = .ok (.if_icmp .le 9, 3) := by decide +kernel
theorem dX9_ray_10 : decode cX9_ray 10 = .ok (.aload_n 0, 1) := by decide +kernel
theorem dX9_ray_11 : decode cX9_ray 11 = .ok (.iconst (-1), 1) := by decide +kernel
theorem dX9_ray_12 : decode cX9_ray 12 = .ok (.invokevirtual 59, 3) := by decide +kernel
theorem dX9_ray_15 : decode cX9_ray 15 = .ok (.ireturn, 1) := by decide +kernel
theorem dX9_ray_16 : decode cX9_ray 16 = .ok (.aload_n 0, 1) := by decide +kernel
theorem dX9_ray_17 : decode cX9_ray 17 = .ok (.getfield 15, 3) := by decide +kernel
theorem dX9_ray_20 : decode cX9_ray 20 = .ok (.aload_n 0, 1) := by decide +kernel
theorem dX9_ray_21 : decode cX9_ray 21 = .ok (.getfield 11, 3) := by decide +kernel
theorem dX9_ray_24 : decode cX9_ray 24 = .ok (.arraylength, 1) := by decide +kernel
theorem dX9_ray_25 : decode cX9_ray 25 = .ok (.if_icmp .lt 10, 3) := by decide +kernel
theorem dX9_ray_28 : decode cX9_ray 28 = .ok (.aload_n 0, 1) := by decide +kernel
theorem dX9_ray_29 : decode cX9_ray 29 = .ok (.bipush (-3), 2) := by decide +kernel
theorem dX9_ray_31 : decode cX9_ray 31 = .ok (.invokevirtual 59, 3) := by decide +kernel
theorem dX9_ray_34 : decode cX9_ray 34 = .ok (.ireturn, 1) := by decide +kernel
theorem dX9_ray_35 : decode cX9_ray 35 = .ok (.aload_n 0, 1) := by decide +kernel
theorem dX9_ray_36 : decode cX9_ray 36 = .ok (.aload_n 0, 1) := by decide +kernel
theorem dX9_ray_37 : decode cX9_ray 37 = .ok (.getfield 50, 3) := by decide +kernel
theorem dX9_ray_40 : decode cX9_ray 40 = .ok (.iload_n 1, 1) := by decide +kernel
theorem dX9_ray_41 : decode cX9_ray 41 = .ok (.invokevirtual 86, 3) := by decide +kernel
theorem dX9_ray_44 : decode cX9_ray 44 = .ok (.invokevirtual 82, 3) := by decide +kernel
theorem dX9_ray_47 : decode cX9_ray 47 = .ok (.ireturn, 1) := by decide +kernel
theorem dX9_of_0 : decode cX9_of 0 = .ok (.aload_n 0, 1) := by decide +kernel
theorem dX9_of_1 : decode cX9_of 1 = .ok (.iload_n 2, 1) := by decide +kernel
theorem dX9_of_2 : decode cX9_of 2 = .ok (.invokevirtual 90, 3) := by decide +kernel
theorem dX9_of_5 : decode cX9_of 5 = .ok (.astore 4, 2) := by decide +kernel
theorem dX9_of_7 : decode cX9_of 7 = .ok (.aload_n 0, 1) := by decide +kernel
theorem dX9_of_8 : decode cX9_of 8 = .ok (.iload_n 3, 1) := by decide +kernel
theorem dX9_of_9 : decode cX9_of 9 = .ok (.invokevirtual 90, 3) := by decide +kernel
theorem dX9_of_12 : decode cX9_of 12 = .ok (.astore 5, 2) := by decide +kernel
theorem dX9_of_14 : decode cX9_of 14 = .ok (.iload_n 1, 1) := by decide +kernel
theorem dX9_of_15 : decode cX9_of 15 = .ok (.ifCond .lt 18, 3) := by decide +kernel
theorem dX9_of_18 : decode cX9_of 18 = .ok (.iload_n 1, 1) := by decide +kernel
theorem dX9_of_19 : decode cX9_of 19 = .ok (.iconst 5, 1) := by decide +kernel
theorem dX9_of_20 : decode cX9_of 20 = .ok (.if_icmp .gt 13, 3) := by decide +kernel
theorem dX9_of_23 : decode cX9_of 23 = .ok (.aload 4, 2) := by decide +kernel
theorem dX9_of_25 : decode cX9_of 25 = .ok (.ifnull 8, 3) := by decide +kernel
theorem dX9_of_28 : decode cX9_of 28 = .ok (.aload 5, 2) := by decide +kernel
theorem dX9_of_30 : decode cX9_of 30 = .ok (.ifnonnull 9, 3) := by decide +kernel
theorem dX9_of_33 : decode cX9_of 33 = .ok (.aload_n 0, 1) := by decide +kernel
theorem dX9_of_34 : decode cX9_of 34 = .ok (.iconst (-1), 1) := by decide +kernel
theorem dX9_of_35 : decode cX9_of 35 = .ok (.invokevirtual 59, 3) := by decide +kernel
theorem dX9_of_38 : decode cX9_of 38 = .ok (.ireturn, 1) := by decide +kernel
theorem dX9_of_39 : decode cX9_of 39 = .ok (.aload_n 0, 1) := by decide +kernel
theorem dX9_of_40 : decode cX9_of 40 = .ok (.getfield 15, 3) := by decide +kernel
theorem dX9_of_43 : decode cX9_of 43 = .ok (.aload_n 0, 1) := by decide +kernel
theorem dX9_of_44 : decode cX9_of 44 = .ok (.getfield 11, 3) := by decide +kernel
theorem dX9_of_47 : decode cX9_of 47 = .ok (.arraylength, 1) := by decide +kernel
theorem dX9_of_48 : decode cX9_of 48 = .ok (.if_icmp .lt 10, 3) := by decide +kernel
theorem dX9_of_51 : decode cX9_of 51 = .ok (.aload_n 0, 1) := by decide +kernel
theorem dX9_of_52 : decode cX9_of 52 = .ok (.bipush (-3), 2) := by decide +kernel
theorem dX9_of_54 : decode cX9_of 54 = .ok (.invokevirtual 59, 3) := by decide +kernel
theorem dX9_of_57 : decode cX9_of 57 = .ok (.ireturn, 1) := by decide +kernel
theorem dX9_of_58 : decode cX9_of 58 = .ok (.aload 4, 2) := by decide +kernel
theorem dX9_of_60 : decode cX9_of 60 = .ok (.aload 5, 2) := by decide +kernel
theorem dX9_of_62 : decode cX9_of 62 = .ok (.invokestatic 93, 3) := by decide +kernel
theorem dX9_of_65 : decode cX9_of 65 = .ok (.istore 6, 2) := by decide +kernel
theorem dX9_of_67 : decode cX9_of 67 = .ok (.iload 6, 2) := by decide +kernel
theorem dX9_of_69 : decode cX9_of 69 = .ok (.iconst (-1), 1) := by decide +kernel
theorem dX9_of_70 : decode cX9_of 70 = .ok (.if_icmp .ne 10, 3) := by decide +kernel
theorem dX9_of_73 : decode cX9_of 73 = .ok (.aload_n 0, 1) := by decide +kernel
theorem dX9_of_74 : decode cX9_of 74 = .ok (.bipush (-4), 2) := by decide +kernel
theorem dX9_of_76 : decode cX9_of 76 = .ok (.invokevirtual 59, 3) := by decide +kernel
theorem dX9_of_79 : decode cX9_of 79 = .ok (.ireturn, 1) := by decide +kernel
theorem dX9_of_80 : decode cX9_of 80 = .ok (.iload_n 1, 1) := by decide +kernel
theorem dX9_of_81 : decode cX9_of 81 = .ok (.iconst 5, 1) := by decide +kernel
theorem dX9_of_82 : decode cX9_of 82 = .ok (.if_icmp .ne 22, 3) := by decide +kernel
theorem dX9_of_85 : decode cX9_of 85 = .ok (.aload 4, 2) := by decide +kernel
theorem dX9_of_87 : decode cX9_of 87 = .ok (.aload 5, 2) := by decide +kernel
theorem dX9_of_89 : decode cX9_of 89 = .ok (.iload 6, 2) := by decide +kernel
theorem dX9_of_91 : decode cX9_of 91 = .ok (.invokestatic 99, 3) := by decide +kernel
theorem dX9_of_94 : decode cX9_of 94 = .ok (.ifCond .eq 10, 3) := by decide +kernel
theorem dX9_of_97 : decode cX9_of 97 = .ok (.aload_n 0, 1) := by decide +kernel
theorem dX9_of_98 : decode cX9_of 98 = .ok (.bipush (-5), 2) := by decide +kernel
theorem dX9_of_100 : decode cX9_of 100 = .ok (.invokevirtual 59, 3) := by decide +kernel
theorem dX9_of_103 : decode cX9_of 103 = .ok (.ireturn, 1) := by decide +kernel
theorem dX9_of_104 : decode cX9_of 104 = .ok (.aload_n 0, 1) := by decide +kernel
theorem dX9_of_105 : decode cX9_of 105 = .ok (.aload_n 0, 1) := by decide +kernel
theorem dX9_of_106 : decode cX9_of 106 = .ok (.getfield 50, 3) := by decide +kernel
theorem dX9_of_109 : decode cX9_of 109 = .ok (.iload_n 1, 1) := by decide +kernel
theorem dX9_of_110 : decode cX9_of 110 = .ok (.aload 4, 2) := by decide +kernel
theorem dX9_of_112 : decode cX9_of 112 = .ok (.aload 5, 2) := by decide +kernel
theorem dX9_of_114 : decode cX9_of 114 = .ok (.iload 6, 2) := by decide +kernel
theorem dX9_of_116 : decode cX9_of 116 = .ok (.invokevirtual 103, 3) := by decide +kernel
theorem dX9_of_119 : decode cX9_of 119 = .ok (.invokevirtual 82, 3) := by decide +kernel
theorem dX9_of_122 : decode cX9_of 122 = .ok (.ireturn, 1) := by decide +kernel
theorem dX9_times_0 : decode cX9_times 0 = .ok (.aload_n 0, 1) := by decide +kernel
theorem dX9_times_1 : decode cX9_times 1 = .ok (.iload_n 1, 1) := by decide +kernel
theorem dX9_times_2 : decode cX9_times 2 = .ok (.invokevirtual 90, 3) := by decide +kernel
theorem dX9_times_5 : decode cX9_times 5 = .ok (.astore_n 3, 1) := by decide +kernel
theorem dX9_times_6 : decode cX9_times 6 = .ok (.aload_n 3, 1) := by decide +kernel
theorem dX9_times_7 : decode cX9_times 7 = .ok (.ifnull 14, 3) := by decide +kernel
theorem dX9_times_10 : decode cX9_times 10 = .ok (.iload_n 2, 1) := by decide +kernel
theorem dX9_times_11 : decode cX9_times 11 = .ok (.ifCond .lt 10, 3) := by decide +kernel
theorem dX9_times_14 : decode cX9_times 14 = .ok (.iload_n 2, 1) := by decide +kernel
theorem dX9_times_15 : decode cX9_times 15 = .ok (.sipush 1000, 3) := by decide +kernel
theorem dX9_times_18 : decode cX9_times 18 = .ok (.if_icmp .le 9, 3) := by decide +kernel
theorem dX9_times_21 : decode cX9_times 21 = .ok (.aload_n 0, 1) := by decide +kernel
theorem dX9_times_22 : decode cX9_times 22 = .ok (.iconst (-1), 1) := by decide +kernel
theorem dX9_times_23 : decode cX9_times 23 = .ok (.invokevirtual 59, 3) := by decide +kernel
theorem dX9_times_26 : decode cX9_times 26 = .ok (.ireturn, 1) := by decide +kernel
theorem dX9_times_27 : decode cX9_times 27 = .ok (.aload_n 0, 1) := by decide +kernel
theorem dX9_times_28 : decode cX9_times 28 = .ok (.getfield 15, 3) := by decide +kernel
theorem dX9_times_31 : decode cX9_times 31 = .ok (.aload_n 0, 1) := by decide +kernel
theorem dX9_times_32 : decode cX9_times 32 = .ok (.getfield 11, 3) := by decide +kernel
theorem dX9_times_35 : decode cX9_times 35 = .ok (.arraylength, 1) := by decide +kernel
theorem dX9_times_36 : decode cX9_times 36 = .ok (.if_icmp .lt 10, 3) := by decide +kernel
theorem dX9_times_39 : decode cX9_times 39 = .ok (.aload_n 0, 1) := by decide +kernel
theorem dX9_times_40 : decode cX9_times 40 = .ok (.bipush (-3), 2) := by decide +kernel
theorem dX9_times_42 : decode cX9_times 42 = .ok (.invokevirtual 59, 3) := by decide +kernel
theorem dX9_times_45 : decode cX9_times 45 = .ok (.ireturn, 1) := by decide +kernel
theorem dX9_times_46 : decode cX9_times 46 = .ok (.aload_n 0, 1) := by decide +kernel
theorem dX9_times_47 : decode cX9_times 47 = .ok (.aload_n 0, 1) := by decide +kernel
theorem dX9_times_48 : decode cX9_times 48 = .ok (.getfield 50, 3) := by decide +kernel
theorem dX9_times_51 : decode cX9_times 51 = .ok (.aload_n 3, 1) := by decide +kernel
theorem dX9_times_52 : decode cX9_times 52 = .ok (.iload_n 2, 1) := by decide +kernel
theorem dX9_times_53 : decode cX9_times 53 = .ok (.invokevirtual 107, 3) := by decide +kernel
theorem dX9_times_56 : decode cX9_times 56 = .ok (.invokevirtual 82, 3) := by decide +kernel
theorem dX9_times_59 : decode cX9_times 59 = .ok (.ireturn, 1) := by decide +kernel
theorem dX9_shift_0 : decode cX9_shift 0 = .ok (.aload_n 0, 1) := by decide +kernel
theorem dX9_shift_1 : decode cX9_shift 1 = .ok (.iload_n 1, 1) := by decide +kernel
theorem dX9_shift_2 : decode cX9_shift 2 = .ok (.invokevirtual 90, 3) := by decide +kernel
theorem dX9_shift_5 : decode cX9_shift 5 = .ok (.astore_n 3, 1) := by decide +kernel
theorem dX9_shift_6 : decode cX9_shift 6 = .ok (.aload_n 3, 1) := by decide +kernel
theorem dX9_shift_7 : decode cX9_shift 7 = .ok (.ifnull 14, 3) := by decide +kernel
theorem dX9_shift_10 : decode cX9_shift 10 = .ok (.iload_n 2, 1) := by decide +kernel
theorem dX9_shift_11 : decode cX9_shift 11 = .ok (.ifCond .lt 10, 3) := by decide +kernel
theorem dX9_shift_14 : decode cX9_shift 14 = .ok (.iload_n 2, 1) := by decide +kernel
theorem dX9_shift_15 : decode cX9_shift 15 = .ok (.sipush 200, 3) := by decide +kernel
theorem dX9_shift_18 : decode cX9_shift 18 = .ok (.if_icmp .le 9, 3) := by decide +kernel
theorem dX9_shift_21 : decode cX9_shift 21 = .ok (.aload_n 0, 1) := by decide +kernel
theorem dX9_shift_22 : decode cX9_shift 22 = .ok (.iconst (-1), 1) := by decide +kernel
theorem dX9_shift_23 : decode cX9_shift 23 = .ok (.invokevirtual 59, 3) := by decide +kernel
theorem dX9_shift_26 : decode cX9_shift 26 = .ok (.ireturn, 1) := by decide +kernel
theorem dX9_shift_27 : decode cX9_shift 27 = .ok (.aload_n 0, 1) := by decide +kernel
theorem dX9_shift_28 : decode cX9_shift 28 = .ok (.getfield 15, 3) := by decide +kernel
theorem dX9_shift_31 : decode cX9_shift 31 = .ok (.aload_n 0, 1) := by decide +kernel
theorem dX9_shift_32 : decode cX9_shift 32 = .ok (.getfield 11, 3) := by decide +kernel
theorem dX9_shift_35 : decode cX9_shift 35 = .ok (.arraylength, 1) := by decide +kernel
theorem dX9_shift_36 : decode cX9_shift 36 = .ok (.if_icmp .lt 10, 3) := by decide +kernel
theorem dX9_shift_39 : decode cX9_shift 39 = .ok (.aload_n 0, 1) := by decide +kernel
theorem dX9_shift_40 : decode cX9_shift 40 = .ok (.bipush (-3), 2) := by decide +kernel
theorem dX9_shift_42 : decode cX9_shift 42 = .ok (.invokevirtual 59, 3) := by decide +kernel
theorem dX9_shift_45 : decode cX9_shift 45 = .ok (.ireturn, 1) := by decide +kernel
theorem dX9_shift_46 : decode cX9_shift 46 = .ok (.aload_n 0, 1) := by decide +kernel
theorem dX9_shift_47 : decode cX9_shift 47 = .ok (.aload_n 0, 1) := by decide +kernel
theorem dX9_shift_48 : decode cX9_shift 48 = .ok (.getfield 50, 3) := by decide +kernel
theorem dX9_shift_51 : decode cX9_shift 51 = .ok (.aload_n 3, 1) := by decide +kernel
theorem dX9_shift_52 : decode cX9_shift 52 = .ok (.iload_n 2, 1) := by decide +kernel
theorem dX9_shift_53 : decode cX9_shift 53 = .ok (.invokevirtual 111, 3) := by decide +kernel
theorem dX9_shift_56 : decode cX9_shift 56 = .ok (.invokevirtual 82, 3) := by decide +kernel
theorem dX9_shift_59 : decode cX9_shift 59 = .ok (.ireturn, 1) := by decide +kernel
theorem dX9_undo_0 : decode cX9_undo 0 = .ok (.aload_n 0, 1) := by decide +kernel
theorem dX9_undo_1 : decode cX9_undo 1 = .ok (.getfield 19, 3) := by decide +kernel
theorem dX9_undo_4 : decode cX9_undo 4 = .ok (.ifCond .eq 23, 3) := by decide +kernel
theorem dX9_undo_7 : decode cX9_undo 7 = .ok (.aload_n 0, 1) := by decide +kernel
theorem dX9_undo_8 : decode cX9_undo 8 = .ok (.getfield 15, 3) := by decide +kernel
theorem dX9_undo_11 : decode cX9_undo 11 = .ok (.iconst 1, 1) := by decide +kernel
theorem dX9_undo_12 : decode cX9_undo 12 = .ok (.if_icmp .lt 15, 3) := by decide +kernel
theorem dX9_undo_15 : decode cX9_undo 15 = .ok (.aload_n 0, 1) := by decide +kernel
theorem dX9_undo_16 : decode cX9_undo 16 = .ok (.getfield 15, 3) := by decide +kernel
theorem dX9_undo_19 : decode cX9_undo 19 = .ok (.aload_n 0, 1) := by decide +kernel
theorem dX9_undo_20 : decode cX9_undo 20 = .ok (.getfield 11, 3) := by decide +kernel
theorem dX9_undo_23 : decode cX9_undo 23 = .ok (.arraylength, 1) := by decide +kernel
theorem dX9_undo_24 : decode cX9_undo 24 = .ok (.if_icmp .le 10, 3) := by decide +kernel
theorem dX9_undo_27 : decode cX9_undo 27 = .ok (.aload_n 0, 1) := by decide +kernel
theorem dX9_undo_28 : decode cX9_undo 28 = .ok (.bipush (-2), 2) := by decide +kernel
theorem dX9_undo_30 : decode cX9_undo 30 = .ok (.invokevirtual 59, 3) := by decide +kernel
theorem dX9_undo_33 : decode cX9_undo 33 = .ok (.ireturn, 1) := by decide +kernel
theorem dX9_undo_34 : decode cX9_undo 34 = .ok (.aload_n 0, 1) := by decide +kernel
theorem dX9_undo_35 : decode cX9_undo 35 = .ok (.dup, 1) := by decide +kernel
theorem dX9_undo_36 : decode cX9_undo 36 = .ok (.getfield 15, 3) := by decide +kernel
theorem dX9_undo_39 : decode cX9_undo 39 = .ok (.iconst 1, 1) := by decide +kernel
theorem dX9_undo_40 : decode cX9_undo 40 = .ok (.isub, 1) := by decide +kernel
theorem dX9_undo_41 : decode cX9_undo 41 = .ok (.putfield 15, 3) := by decide +kernel
theorem dX9_undo_44 : decode cX9_undo 44 = .ok (.aload_n 0, 1) := by decide +kernel
theorem dX9_undo_45 : decode cX9_undo 45 = .ok (.getfield 11, 3) := by decide +kernel
theorem dX9_undo_48 : decode cX9_undo 48 = .ok (.aload_n 0, 1) := by decide +kernel
theorem dX9_undo_49 : decode cX9_undo 49 = .ok (.getfield 15, 3) := by decide +kernel
theorem dX9_undo_52 : decode cX9_undo 52 = .ok (.aconst_null, 1) := by decide +kernel
theorem dX9_undo_53 : decode cX9_undo 53 = .ok (.aastore, 1) := by decide +kernel
theorem dX9_undo_54 : decode cX9_undo 54 = .ok (.aload_n 0, 1) := by decide +kernel
theorem dX9_undo_55 : decode cX9_undo 55 = .ok (.getfield 37, 3) := by decide +kernel
theorem dX9_undo_58 : decode cX9_undo 58 = .ok (.aload_n 0, 1) := by decide +kernel
theorem dX9_undo_59 : decode cX9_undo 59 = .ok (.getfield 15, 3) := by decide +kernel
theorem dX9_undo_62 : decode cX9_undo 62 = .ok (.if_icmp .ne 8, 3) := by decide +kernel
theorem dX9_undo_65 : decode cX9_undo 65 = .ok (.aload_n 0, 1) := by decide +kernel
theorem dX9_undo_66 : decode cX9_undo 66 = .ok (.iconst (-1), 1) := by decide +kernel
theorem dX9_undo_67 : decode cX9_undo 67 = .ok (.putfield 37, 3) := by decide +kernel
theorem dX9_undo_70 : decode cX9_undo 70 = .ok (.aload_n 0, 1) := by decide +kernel
theorem dX9_undo_71 : decode cX9_undo 71 = .ok (.iconst 0, 1) := by decide +kernel
theorem dX9_undo_72 : decode cX9_undo 72 = .ok (.putfield 19, 3) := by decide +kernel
theorem dX9_undo_75 : decode cX9_undo 75 = .ok (.aload_n 0, 1) := by decide +kernel
theorem dX9_undo_76 : decode cX9_undo 76 = .ok (.aload_n 0, 1) := by decide +kernel
theorem dX9_undo_77 : decode cX9_undo 77 = .ok (.getfield 15, 3) := by decide +kernel
theorem dX9_undo_80 : decode cX9_undo 80 = .ok (.invokevirtual 63, 3) := by decide +kernel
theorem dX9_undo_83 : decode cX9_undo 83 = .ok (.ireturn, 1) := by decide +kernel
theorem dX9_at_0 : decode cX9_at 0 = .ok (.aload_n 0, 1) := by decide +kernel
theorem dX9_at_1 : decode cX9_at 1 = .ok (.iload_n 1, 1) := by decide +kernel
theorem dX9_at_2 : decode cX9_at 2 = .ok (.invokevirtual 90, 3) := by decide +kernel
theorem dX9_at_5 : decode cX9_at 5 = .ok (.astore_n 3, 1) := by decide +kernel
theorem dX9_at_6 : decode cX9_at 6 = .ok (.aload_n 3, 1) := by decide +kernel
theorem dX9_at_7 : decode cX9_at 7 = .ok (.ifnull 13, 3) := by decide +kernel
theorem dX9_at_10 : decode cX9_at 10 = .ok (.iload_n 2, 1) := by decide +kernel
theorem dX9_at_11 : decode cX9_at 11 = .ok (.ifCond .lt 9, 3) := by decide +kernel
theorem dX9_at_14 : decode cX9_at 14 = .ok (.iload_n 2, 1) := by decide +kernel
theorem dX9_at_15 : decode cX9_at 15 = .ok (.ldc 73, 2) := by decide +kernel
theorem dX9_at_17 : decode cX9_at 17 = .ok (.if_icmp .le 9, 3) := by decide +kernel
theorem dX9_at_20 : decode cX9_at 20 = .ok (.aload_n 0, 1) := by decide +kernel
theorem dX9_at_21 : decode cX9_at 21 = .ok (.iconst (-1), 1) := by decide +kernel
theorem dX9_at_22 : decode cX9_at 22 = .ok (.invokevirtual 114, 3) := by decide +kernel
theorem dX9_at_25 : decode cX9_at 25 = .ok (.lreturn, 1) := by decide +kernel
theorem dX9_at_26 : decode cX9_at 26 = .ok (.aload_n 0, 1) := by decide +kernel
theorem dX9_at_27 : decode cX9_at 27 = .ok (.aload_n 3, 1) := by decide +kernel
theorem dX9_at_28 : decode cX9_at 28 = .ok (.iload_n 2, 1) := by decide +kernel
theorem dX9_at_29 : decode cX9_at 29 = .ok (.aload_n 0, 1) := by decide +kernel
theorem dX9_at_30 : decode cX9_at 30 = .ok (.getfield 43, 3) := by decide +kernel
theorem dX9_at_33 : decode cX9_at 33 = .ok (.invokevirtual 118, 3) := by decide +kernel
theorem dX9_at_36 : decode cX9_at 36 = .ok (.invokevirtual 122, 3) := by decide +kernel
theorem dX9_at_39 : decode cX9_at 39 = .ok (.lreturn, 1) := by decide +kernel
theorem dX9_about_0 : decode cX9_about 0 = .ok (.aload_n 0, 1) := by decide +kernel
theorem dX9_about_1 : decode cX9_about 1 = .ok (.iload_n 1, 1) := by decide +kernel
theorem dX9_about_2 : decode cX9_about 2 = .ok (.invokevirtual 90, 3) := by decide +kernel
theorem dX9_about_5 : decode cX9_about 5 = .ok (.astore_n 3, 1) := by decide +kernel
theorem dX9_about_6 : decode cX9_about 6 = .ok (.aload_n 3, 1) := by decide +kernel
theorem dX9_about_7 : decode cX9_about 7 = .ok (.ifnonnull 9, 3) := by decide +kernel
theorem dX9_about_10 : decode cX9_about 10 = .ok (.aload_n 0, 1) := by decide +kernel
theorem dX9_about_11 : decode cX9_about 11 = .ok (.iconst (-1), 1) := by decide +kernel
theorem dX9_about_12 : decode cX9_about 12 = .ok (.invokevirtual 59, 3) := by decide +kernel
theorem dX9_about_15 : decode cX9_about 15 = .ok (.ireturn, 1) := by decide +kernel
theorem dX9_about_16 : decode cX9_about 16 = .ok (.iload_n 2, 1) := by decide +kernel
theorem dX9_about_17 : decode cX9_about 17 = .ok (.tableswitch 88 0 4 #[35, 44, 53, 62, 71], 35) := by decide +kernel
theorem dX9_about_52 : decode cX9_about 52 = .ok (.aload_n 0, 1) := by decide +kernel
theorem dX9_about_53 : decode cX9_about 53 = .ok (.aload_n 3, 1) := by decide +kernel
theorem dX9_about_54 : decode cX9_about 54 = .ok (.getfield 126, 3) := by decide +kernel
theorem dX9_about_57 : decode cX9_about 57 = .ok (.invokevirtual 63, 3) := by decide +kernel
theorem dX9_about_60 : decode cX9_about 60 = .ok (.ireturn, 1) := by decide +kernel
theorem dX9_about_61 : decode cX9_about 61 = .ok (.aload_n 0, 1) := by decide +kernel
theorem dX9_about_62 : decode cX9_about 62 = .ok (.aload_n 3, 1) := by decide +kernel
theorem dX9_about_63 : decode cX9_about 63 = .ok (.getfield 129, 3) := by decide +kernel
theorem dX9_about_66 : decode cX9_about 66 = .ok (.invokevirtual 63, 3) := by decide +kernel
theorem dX9_about_69 : decode cX9_about 69 = .ok (.ireturn, 1) := by decide +kernel
theorem dX9_about_70 : decode cX9_about 70 = .ok (.aload_n 0, 1) := by decide +kernel
theorem dX9_about_71 : decode cX9_about 71 = .ok (.aload_n 3, 1) := by decide +kernel
theorem dX9_about_72 : decode cX9_about 72 = .ok (.getfield 132, 3) := by decide +kernel
theorem dX9_about_75 : decode cX9_about 75 = .ok (.invokevirtual 63, 3) := by decide +kernel
theorem dX9_about_78 : decode cX9_about 78 = .ok (.ireturn, 1) := by decide +kernel
theorem dX9_about_79 : decode cX9_about 79 = .ok (.aload_n 0, 1) := by decide +kernel
theorem dX9_about_80 : decode cX9_about 80 = .ok (.aload_n 3, 1) := by decide +kernel
theorem dX9_about_81 : decode cX9_about 81 = .ok (.invokevirtual 135, 3) := by decide +kernel
theorem dX9_about_84 : decode cX9_about 84 = .ok (.invokevirtual 63, 3) := by decide +kernel
theorem dX9_about_87 : decode cX9_about 87 = .ok (.ireturn, 1) := by decide +kernel
theorem dX9_about_88 : decode cX9_about 88 = .ok (.aload_n 0, 1) := by decide +kernel
theorem dX9_about_89 : decode cX9_about 89 = .ok (.aload_n 3, 1) := by decide +kernel
theorem dX9_about_90 : decode cX9_about 90 = .ok (.invokevirtual 139, 3) := by decide +kernel
theorem dX9_about_93 : decode cX9_about 93 = .ok (.ifCond .eq 7, 3) := by decide +kernel
theorem dX9_about_96 : decode cX9_about 96 = .ok (.iconst 1, 1) := by decide +kernel
theorem dX9_about_97 : decode cX9_about 97 = .ok (.goto 4, 3) := by decide +kernel
theorem dX9_about_100 : decode cX9_about 100 = .ok (.iconst 0, 1) := by decide +kernel
theorem dX9_about_101 : decode cX9_about 101 = .ok (.invokevirtual 63, 3) := by decide +kernel
theorem dX9_about_104 : decode cX9_about 104 = .ok (.ireturn, 1) := by decide +kernel
theorem dX9_about_105 : decode cX9_about 105 = .ok (.aload_n 0, 1) := by decide +kernel
theorem dX9_about_106 : decode cX9_about 106 = .ok (.iconst (-1), 1) := by decide +kernel
theorem dX9_about_107 : decode cX9_about 107 = .ok (.invokevirtual 59, 3) := by decide +kernel
theorem dX9_about_110 : decode cX9_about 110 = .ok (.ireturn, 1) := by decide +kernel
theorem dX9_rate_0 : decode cX9_rate 0 = .ok (.aload_n 0, 1) := by decide +kernel
theorem dX9_rate_1 : decode cX9_rate 1 = .ok (.iload_n 1, 1) := by decide +kernel
theorem dX9_rate_2 : decode cX9_rate 2 = .ok (.invokevirtual 90, 3) := by decide +kernel
theorem dX9_rate_5 : decode cX9_rate 5 = .ok (.astore_n 3, 1) := by decide +kernel
theorem dX9_rate_6 : decode cX9_rate 6 = .ok (.aload_n 3, 1) := by decide +kernel
theorem dX9_rate_7 : decode cX9_rate 7 = .ok (.ifnull 12, 3) := by decide +kernel
theorem dX9_rate_10 : decode cX9_rate 10 = .ok (.iload_n 2, 1) := by decide +kernel
theorem dX9_rate_11 : decode cX9_rate 11 = .ok (.ifCond .lt 8, 3) := by decide +kernel
theorem dX9_rate_14 : decode cX9_rate 14 = .ok (.iload_n 2, 1) := by decide +kernel
theorem dX9_rate_15 : decode cX9_rate 15 = .ok (.iconst 1, 1) := by decide +kernel
theorem dX9_rate_16 : decode cX9_rate 16 = .ok (.if_icmp .le 9, 3) := by decide +kernel
theorem dX9_rate_19 : decode cX9_rate 19 = .ok (.aload_n 0, 1) := by decide +kernel
theorem dX9_rate_20 : decode cX9_rate 20 = .ok (.iconst (-1), 1) := by decide +kernel
theorem dX9_rate_21 : decode cX9_rate 21 = .ok (.invokevirtual 59, 3) := by decide +kernel
theorem dX9_rate_24 : decode cX9_rate 24 = .ok (.ireturn, 1) := by decide +kernel
theorem dX9_rate_25 : decode cX9_rate 25 = .ok (.aload_n 3, 1) := by decide +kernel
theorem dX9_rate_26 : decode cX9_rate 26 = .ok (.invokevirtual 143, 3) := by decide +kernel
theorem dX9_rate_29 : decode cX9_rate 29 = .ok (.istore 4, 2) := by decide +kernel
theorem dX9_rate_31 : decode cX9_rate 31 = .ok (.iload_n 2, 1) := by decide +kernel
theorem dX9_rate_32 : decode cX9_rate 32 = .ok (.ifCond .ne 10, 3) := by decide +kernel
theorem dX9_rate_35 : decode cX9_rate 35 = .ok (.aload_n 3, 1) := by decide +kernel
theorem dX9_rate_36 : decode cX9_rate 36 = .ok (.getfield 132, 3) := by decide +kernel
theorem dX9_rate_39 : decode cX9_rate 39 = .ok (.goto 7, 3) := by decide +kernel
theorem dX9_rate_42 : decode cX9_rate 42 = .ok (.aload_n 3, 1) := by decide +kernel
theorem dX9_rate_43 : decode cX9_rate 43 = .ok (.getfield 129, 3) := by decide +kernel
theorem dX9_rate_46 : decode cX9_rate 46 = .ok (.istore 5, 2) := by decide +kernel
theorem dX9_rate_48 : decode cX9_rate 48 = .ok (.aload_n 0, 1) := by decide +kernel
theorem dX9_rate_49 : decode cX9_rate 49 = .ok (.iload 4, 2) := by decide +kernel
theorem dX9_rate_51 : decode cX9_rate 51 = .ok (.iconst 1, 1) := by decide +kernel
theorem dX9_rate_52 : decode cX9_rate 52 = .ok (.if_icmp .ge 8, 3) := by decide +kernel
theorem dX9_rate_55 : decode cX9_rate 55 = .ok (.iload 5, 2) := by decide +kernel
theorem dX9_rate_57 : decode cX9_rate 57 = .ok (.goto 8, 3) := by decide +kernel
theorem dX9_rate_60 : decode cX9_rate 60 = .ok (.iload 5, 2) := by decide +kernel
theorem dX9_rate_62 : decode cX9_rate 62 = .ok (.iload 4, 2) := by decide +kernel
theorem dX9_rate_64 : decode cX9_rate 64 = .ok (.idiv, 1) := by decide +kernel
theorem dX9_rate_65 : decode cX9_rate 65 = .ok (.invokevirtual 63, 3) := by decide +kernel
theorem dX9_rate_68 : decode cX9_rate 68 = .ok (.ireturn, 1) := by decide +kernel
theorem dX9_unlike_0 : decode cX9_unlike 0 = .ok (.aload_n 0, 1) := by decide +kernel
theorem dX9_unlike_1 : decode cX9_unlike 1 = .ok (.iload_n 1, 1) := by decide +kernel
theorem dX9_unlike_2 : decode cX9_unlike 2 = .ok (.invokevirtual 90, 3) := by decide +kernel
theorem dX9_unlike_5 : decode cX9_unlike 5 = .ok (.astore_n 3, 1) := by decide +kernel
theorem dX9_unlike_6 : decode cX9_unlike 6 = .ok (.aload_n 0, 1) := by decide +kernel
theorem dX9_unlike_7 : decode cX9_unlike 7 = .ok (.iload_n 2, 1) := by decide +kernel
theorem dX9_unlike_8 : decode cX9_unlike 8 = .ok (.invokevirtual 90, 3) := by decide +kernel
theorem dX9_unlike_11 : decode cX9_unlike 11 = .ok (.astore 4, 2) := by decide +kernel
theorem dX9_unlike_13 : decode cX9_unlike 13 = .ok (.aload_n 3, 1) := by decide +kernel
theorem dX9_unlike_14 : decode cX9_unlike 14 = .ok (.ifnull 8, 3) := by decide +kernel
theorem dX9_unlike_17 : decode cX9_unlike 17 = .ok (.aload 4, 2) := by decide +kernel
theorem dX9_unlike_19 : decode cX9_unlike 19 = .ok (.ifnonnull 11, 3) := by decide +kernel
theorem dX9_unlike_22 : decode cX9_unlike 22 = .ok (.aload_n 0, 1) := by decide +kernel
theorem dX9_unlike_23 : decode cX9_unlike 23 = .ok (.iconst (-1), 1) := by decide +kernel
theorem dX9_unlike_24 : decode cX9_unlike 24 = .ok (.putfield 54, 3) := by decide +kernel
theorem dX9_unlike_27 : decode cX9_unlike 27 = .ok (.bipush (-2), 2) := by decide +kernel
theorem dX9_unlike_29 : decode cX9_unlike 29 = .ok (.ireturn, 1) := by decide +kernel
theorem dX9_unlike_30 : decode cX9_unlike 30 = .ok (.aload_n 3, 1) := by decide +kernel
theorem dX9_unlike_31 : decode cX9_unlike 31 = .ok (.aload 4, 2) := by decide +kernel
theorem dX9_unlike_33 : decode cX9_unlike 33 = .ok (.invokestatic 93, 3) := by decide +kernel
theorem dX9_unlike_36 : decode cX9_unlike 36 = .ok (.istore 5, 2) := by decide +kernel
theorem dX9_unlike_38 : decode cX9_unlike 38 = .ok (.iload 5, 2) := by decide +kernel
theorem dX9_unlike_40 : decode cX9_unlike 40 = .ok (.iconst (-1), 1) := by decide +kernel
theorem dX9_unlike_41 : decode cX9_unlike 41 = .ok (.if_icmp .ne 12, 3) := by decide +kernel
theorem dX9_unlike_44 : decode cX9_unlike 44 = .ok (.aload_n 0, 1) := by decide +kernel
theorem dX9_unlike_45 : decode cX9_unlike 45 = .ok (.bipush (-4), 2) := by decide +kernel
theorem dX9_unlike_47 : decode cX9_unlike 47 = .ok (.putfield 54, 3) := by decide +kernel
theorem dX9_unlike_50 : decode cX9_unlike 50 = .ok (.bipush (-2), 2) := by decide +kernel
theorem dX9_unlike_52 : decode cX9_unlike 52 = .ok (.ireturn, 1) := by decide +kernel
theorem dX9_unlike_53 : decode cX9_unlike 53 = .ok (.aload_n 0, 1) := by decide +kernel
theorem dX9_unlike_54 : decode cX9_unlike 54 = .ok (.aload_n 3, 1) := by decide +kernel
theorem dX9_unlike_55 : decode cX9_unlike 55 = .ok (.aload 4, 2) := by decide +kernel
theorem dX9_unlike_57 : decode cX9_unlike 57 = .ok (.iload 5, 2) := by decide +kernel
theorem dX9_unlike_59 : decode cX9_unlike 59 = .ok (.invokestatic 146, 3) := by decide +kernel
theorem dX9_unlike_62 : decode cX9_unlike 62 = .ok (.invokevirtual 63, 3) := by decide +kernel
theorem dX9_unlike_65 : decode cX9_unlike 65 = .ok (.ireturn, 1) := by decide +kernel
theorem dX9_below_0 : decode cX9_below 0 = .ok (.aload_n 0, 1) := by decide +kernel
theorem dX9_below_1 : decode cX9_below 1 = .ok (.iload_n 1, 1) := by decide +kernel
theorem dX9_below_2 : decode cX9_below 2 = .ok (.invokevirtual 90, 3) := by decide +kernel
theorem dX9_below_5 : decode cX9_below 5 = .ok (.astore_n 3, 1) := by decide +kernel
theorem dX9_below_6 : decode cX9_below 6 = .ok (.aload_n 0, 1) := by decide +kernel
theorem dX9_below_7 : decode cX9_below 7 = .ok (.iload_n 2, 1) := by decide +kernel
theorem dX9_below_8 : decode cX9_below 8 = .ok (.invokevirtual 90, 3) := by decide +kernel
theorem dX9_below_11 : decode cX9_below 11 = .ok (.astore 4, 2) := by decide +kernel
theorem dX9_below_13 : decode cX9_below 13 = .ok (.aload_n 3, 1) := by decide +kernel
theorem dX9_below_14 : decode cX9_below 14 = .ok (.ifnull 8, 3) := by decide +kernel
theorem dX9_below_17 : decode cX9_below 17 = .ok (.aload 4, 2) := by decide +kernel
theorem dX9_below_19 : decode cX9_below 19 = .ok (.ifnonnull 9, 3) := by decide +kernel
theorem dX9_below_22 : decode cX9_below 22 = .ok (.aload_n 0, 1) := by decide +kernel
theorem dX9_below_23 : decode cX9_below 23 = .ok (.iconst (-1), 1) := by decide +kernel
theorem dX9_below_24 : decode cX9_below 24 = .ok (.invokevirtual 59, 3) := by decide +kernel
theorem dX9_below_27 : decode cX9_below 27 = .ok (.ireturn, 1) := by decide +kernel
theorem dX9_below_28 : decode cX9_below 28 = .ok (.aload_n 3, 1) := by decide +kernel
theorem dX9_below_29 : decode cX9_below 29 = .ok (.aload 4, 2) := by decide +kernel
theorem dX9_below_31 : decode cX9_below 31 = .ok (.invokestatic 93, 3) := by decide +kernel
theorem dX9_below_34 : decode cX9_below 34 = .ok (.istore 5, 2) := by decide +kernel
theorem dX9_below_36 : decode cX9_below 36 = .ok (.iload 5, 2) := by decide +kernel
theorem dX9_below_38 : decode cX9_below 38 = .ok (.iconst (-1), 1) := by decide +kernel
theorem dX9_below_39 : decode cX9_below 39 = .ok (.if_icmp .ne 10, 3) := by decide +kernel
theorem dX9_below_42 : decode cX9_below 42 = .ok (.aload_n 0, 1) := by decide +kernel
theorem dX9_below_43 : decode cX9_below 43 = .ok (.bipush (-4), 2) := by decide +kernel
theorem dX9_below_45 : decode cX9_below 45 = .ok (.invokevirtual 59, 3) := by decide +kernel
theorem dX9_below_48 : decode cX9_below 48 = .ok (.ireturn, 1) := by decide +kernel
theorem dX9_below_49 : decode cX9_below 49 = .ok (.aload_n 3, 1) := by decide +kernel
theorem dX9_below_50 : decode cX9_below 50 = .ok (.aload 4, 2) := by decide +kernel
theorem dX9_below_52 : decode cX9_below 52 = .ok (.iload 5, 2) := by decide +kernel
theorem dX9_below_54 : decode cX9_below 54 = .ok (.invokestatic 99, 3) := by decide +kernel
theorem dX9_below_57 : decode cX9_below 57 = .ok (.ifCond .ne 20, 3) := by decide +kernel
theorem dX9_below_60 : decode cX9_below 60 = .ok (.aload_n 3, 1) := by decide +kernel
theorem dX9_below_61 : decode cX9_below 61 = .ok (.aload 4, 2) := by decide +kernel
theorem dX9_below_63 : decode cX9_below 63 = .ok (.iload 5, 2) := by decide +kernel
theorem dX9_below_65 : decode cX9_below 65 = .ok (.invokestatic 150, 3) := by decide +kernel
theorem dX9_below_68 : decode cX9_below 68 = .ok (.lconst 0, 1) := by decide +kernel
theorem dX9_below_69 : decode cX9_below 69 = .ok (.lcmp, 1) := by decide +kernel
theorem dX9_below_70 : decode cX9_below 70 = .ok (.ifCond .ne 7, 3) := by decide +kernel
theorem dX9_below_73 : decode cX9_below 73 = .ok (.iconst 1, 1) := by decide +kernel
theorem dX9_below_74 : decode cX9_below 74 = .ok (.goto 4, 3) := by decide +kernel
theorem dX9_below_77 : decode cX9_below 77 = .ok (.iconst 0, 1) := by decide +kernel
theorem dX9_below_78 : decode cX9_below 78 = .ok (.istore 6, 2) := by decide +kernel
theorem dX9_below_80 : decode cX9_below 80 = .ok (.aload_n 0, 1) := by decide +kernel
theorem dX9_below_81 : decode cX9_below 81 = .ok (.iload 6, 2) := by decide +kernel
theorem dX9_below_83 : decode cX9_below 83 = .ok (.ifCond .eq 7, 3) := by decide +kernel
theorem dX9_below_86 : decode cX9_below 86 = .ok (.iconst 1, 1) := by decide +kernel
theorem dX9_below_87 : decode cX9_below 87 = .ok (.goto 4, 3) := by decide +kernel
theorem dX9_below_90 : decode cX9_below 90 = .ok (.iconst 0, 1) := by decide +kernel
theorem dX9_below_91 : decode cX9_below 91 = .ok (.invokevirtual 63, 3) := by decide +kernel
theorem dX9_below_94 : decode cX9_below 94 = .ok (.ireturn, 1) := by decide +kernel
theorem dX9_first_0 : decode cX9_first 0 = .ok (.aload_n 0, 1) := by decide +kernel
theorem dX9_first_1 : decode cX9_first 1 = .ok (.iload_n 1, 1) := by decide +kernel
theorem dX9_first_2 : decode cX9_first 2 = .ok (.invokevirtual 90, 3) := by decide +kernel
theorem dX9_first_5 : decode cX9_first 5 = .ok (.astore 4, 2) := by decide +kernel
theorem dX9_first_7 : decode cX9_first 7 = .ok (.aload 4, 2) := by decide +kernel
theorem dX9_first_9 : decode cX9_first 9 = .ok (.ifnull 9, 3) := by decide +kernel
theorem dX9_first_12 : decode cX9_first 12 = .ok (.lload_n 2, 1) := by decide +kernel
theorem dX9_first_13 : decode cX9_first 13 = .ok (.lconst 0, 1) := by decide +kernel
theorem dX9_first_14 : decode cX9_first 14 = .ok (.lcmp, 1) := by decide +kernel
theorem dX9_first_15 : decode cX9_first 15 = .ok (.ifCond .ge 9, 3) := by decide +kernel
theorem dX9_first_18 : decode cX9_first 18 = .ok (.aload_n 0, 1) := by decide +kernel
theorem dX9_first_19 : decode cX9_first 19 = .ok (.iconst (-1), 1) := by decide +kernel
theorem dX9_first_20 : decode cX9_first 20 = .ok (.invokevirtual 59, 3) := by decide +kernel
theorem dX9_first_23 : decode cX9_first 23 = .ok (.ireturn, 1) := by decide +kernel
theorem dX9_first_24 : decode cX9_first 24 = .ok (.aload 4, 2) := by decide +kernel
theorem dX9_first_26 : decode cX9_first 26 = .ok (.lload_n 2, 1) := by decide +kernel
theorem dX9_first_27 : decode cX9_first 27 = .ok (.ldc 73, 2) := by decide +kernel
theorem dX9_first_29 : decode cX9_first 29 = .ok (.invokevirtual 154, 3) := by decide +kernel
theorem dX9_first_32 : decode cX9_first 32 = .ok (.istore 5, 2) := by decide +kernel
theorem dX9_first_34 : decode cX9_first 34 = .ok (.iload 5, 2) := by decide +kernel
theorem dX9_first_36 : decode cX9_first 36 = .ok (.iconst (-1), 1) := by decide +kernel
theorem dX9_first_37 : decode cX9_first 37 = .ok (.if_icmp .ne 12, 3) := by decide +kernel
theorem dX9_first_40 : decode cX9_first 40 = .ok (.aload_n 0, 1) := by decide +kernel
theorem dX9_first_41 : decode cX9_first 41 = .ok (.bipush (-5), 2) := by decide +kernel
theorem dX9_first_43 : decode cX9_first 43 = .ok (.invokevirtual 59, 3) := by decide +kernel
theorem dX9_first_46 : decode cX9_first 46 = .ok (.goto 9, 3) := by decide +kernel
theorem dX9_first_49 : decode cX9_first 49 = .ok (.aload_n 0, 1) := by decide +kernel
theorem dX9_first_50 : decode cX9_first 50 = .ok (.iload 5, 2) := by decide +kernel
theorem dX9_first_52 : decode cX9_first 52 = .ok (.invokevirtual 63, 3) := by decide +kernel
theorem dX9_first_55 : decode cX9_first 55 = .ok (.ireturn, 1) := by decide +kernel
theorem dX9_heap_0 : decode cX9_heap 0 = .ok (.aload_n 0, 1) := by decide +kernel
theorem dX9_heap_1 : decode cX9_heap 1 = .ok (.iload_n 1, 1) := by decide +kernel
theorem dX9_heap_2 : decode cX9_heap 2 = .ok (.invokevirtual 90, 3) := by decide +kernel
theorem dX9_heap_5 : decode cX9_heap 5 = .ok (.astore_n 3, 1) := by decide +kernel
theorem dX9_heap_6 : decode cX9_heap 6 = .ok (.aload_n 0, 1) := by decide +kernel
theorem dX9_heap_7 : decode cX9_heap 7 = .ok (.iload_n 2, 1) := by decide +kernel
theorem dX9_heap_8 : decode cX9_heap 8 = .ok (.invokevirtual 90, 3) := by decide +kernel
theorem dX9_heap_11 : decode cX9_heap 11 = .ok (.astore 4, 2) := by decide +kernel
theorem dX9_heap_13 : decode cX9_heap 13 = .ok (.aload_n 3, 1) := by decide +kernel
theorem dX9_heap_14 : decode cX9_heap 14 = .ok (.ifnull 8, 3) := by decide +kernel
theorem dX9_heap_17 : decode cX9_heap 17 = .ok (.aload 4, 2) := by decide +kernel
theorem dX9_heap_19 : decode cX9_heap 19 = .ok (.ifnonnull 9, 3) := by decide +kernel
theorem dX9_heap_22 : decode cX9_heap 22 = .ok (.aload_n 0, 1) := by decide +kernel
theorem dX9_heap_23 : decode cX9_heap 23 = .ok (.iconst (-1), 1) := by decide +kernel
theorem dX9_heap_24 : decode cX9_heap 24 = .ok (.invokevirtual 114, 3) := by decide +kernel
theorem dX9_heap_27 : decode cX9_heap 27 = .ok (.lreturn, 1) := by decide +kernel
theorem dX9_heap_28 : decode cX9_heap 28 = .ok (.aload_n 3, 1) := by decide +kernel
theorem dX9_heap_29 : decode cX9_heap 29 = .ok (.aload 4, 2) := by decide +kernel
theorem dX9_heap_31 : decode cX9_heap 31 = .ok (.invokestatic 93, 3) := by decide +kernel
theorem dX9_heap_34 : decode cX9_heap 34 = .ok (.istore 5, 2) := by decide +kernel
theorem dX9_heap_36 : decode cX9_heap 36 = .ok (.iload 5, 2) := by decide +kernel
theorem dX9_heap_38 : decode cX9_heap 38 = .ok (.iconst (-1), 1) := by decide +kernel
theorem dX9_heap_39 : decode cX9_heap 39 = .ok (.if_icmp .ne 10, 3) := by decide +kernel
theorem dX9_heap_42 : decode cX9_heap 42 = .ok (.aload_n 0, 1) := by decide +kernel
theorem dX9_heap_43 : decode cX9_heap 43 = .ok (.bipush (-4), 2) := by decide +kernel
theorem dX9_heap_45 : decode cX9_heap 45 = .ok (.invokevirtual 114, 3) := by decide +kernel
theorem dX9_heap_48 : decode cX9_heap 48 = .ok (.lreturn, 1) := by decide +kernel
theorem dX9_heap_49 : decode cX9_heap 49 = .ok (.aload_n 3, 1) := by decide +kernel
theorem dX9_heap_50 : decode cX9_heap 50 = .ok (.aload 4, 2) := by decide +kernel
theorem dX9_heap_52 : decode cX9_heap 52 = .ok (.iload 5, 2) := by decide +kernel
theorem dX9_heap_54 : decode cX9_heap 54 = .ok (.invokestatic 99, 3) := by decide +kernel
theorem dX9_heap_57 : decode cX9_heap 57 = .ok (.ifCond .eq 10, 3) := by decide +kernel
theorem dX9_heap_60 : decode cX9_heap 60 = .ok (.aload_n 0, 1) := by decide +kernel
theorem dX9_heap_61 : decode cX9_heap 61 = .ok (.bipush (-5), 2) := by decide +kernel
theorem dX9_heap_63 : decode cX9_heap 63 = .ok (.invokevirtual 114, 3) := by decide +kernel
theorem dX9_heap_66 : decode cX9_heap 66 = .ok (.lreturn, 1) := by decide +kernel
theorem dX9_heap_67 : decode cX9_heap 67 = .ok (.aload_n 0, 1) := by decide +kernel
theorem dX9_heap_68 : decode cX9_heap 68 = .ok (.aload_n 3, 1) := by decide +kernel
theorem dX9_heap_69 : decode cX9_heap 69 = .ok (.aload 4, 2) := by decide +kernel
theorem dX9_heap_71 : decode cX9_heap 71 = .ok (.iload 5, 2) := by decide +kernel
theorem dX9_heap_73 : decode cX9_heap 73 = .ok (.invokestatic 150, 3) := by decide +kernel
theorem dX9_heap_76 : decode cX9_heap 76 = .ok (.invokevirtual 122, 3) := by decide +kernel
theorem dX9_heap_79 : decode cX9_heap 79 = .ok (.lreturn, 1) := by decide +kernel
theorem dX9_wait_0 : decode cX9_wait 0 = .ok (.aload_n 0, 1) := by decide +kernel
theorem dX9_wait_1 : decode cX9_wait 1 = .ok (.iload_n 1, 1) := by decide +kernel
theorem dX9_wait_2 : decode cX9_wait 2 = .ok (.invokevirtual 90, 3) := by decide +kernel
theorem dX9_wait_5 : decode cX9_wait 5 = .ok (.astore_n 3, 1) := by decide +kernel
theorem dX9_wait_6 : decode cX9_wait 6 = .ok (.aload_n 0, 1) := by decide +kernel
theorem dX9_wait_7 : decode cX9_wait 7 = .ok (.iload_n 2, 1) := by decide +kernel
theorem dX9_wait_8 : decode cX9_wait 8 = .ok (.invokevirtual 90, 3) := by decide +kernel
theorem dX9_wait_11 : decode cX9_wait 11 = .ok (.astore 4, 2) := by decide +kernel
theorem dX9_wait_13 : decode cX9_wait 13 = .ok (.aload_n 3, 1) := by decide +kernel
theorem dX9_wait_14 : decode cX9_wait 14 = .ok (.ifnull 8, 3) := by decide +kernel
theorem dX9_wait_17 : decode cX9_wait 17 = .ok (.aload 4, 2) := by decide +kernel
theorem dX9_wait_19 : decode cX9_wait 19 = .ok (.ifnonnull 9, 3) := by decide +kernel
theorem dX9_wait_22 : decode cX9_wait 22 = .ok (.aload_n 0, 1) := by decide +kernel
theorem dX9_wait_23 : decode cX9_wait 23 = .ok (.iconst (-1), 1) := by decide +kernel
theorem dX9_wait_24 : decode cX9_wait 24 = .ok (.invokevirtual 59, 3) := by decide +kernel
theorem dX9_wait_27 : decode cX9_wait 27 = .ok (.ireturn, 1) := by decide +kernel
theorem dX9_wait_28 : decode cX9_wait 28 = .ok (.aload_n 3, 1) := by decide +kernel
theorem dX9_wait_29 : decode cX9_wait 29 = .ok (.aload 4, 2) := by decide +kernel
theorem dX9_wait_31 : decode cX9_wait 31 = .ok (.invokestatic 93, 3) := by decide +kernel
theorem dX9_wait_34 : decode cX9_wait 34 = .ok (.istore 5, 2) := by decide +kernel
theorem dX9_wait_36 : decode cX9_wait 36 = .ok (.iload 5, 2) := by decide +kernel
theorem dX9_wait_38 : decode cX9_wait 38 = .ok (.iconst (-1), 1) := by decide +kernel
theorem dX9_wait_39 : decode cX9_wait 39 = .ok (.if_icmp .ne 10, 3) := by decide +kernel
theorem dX9_wait_42 : decode cX9_wait 42 = .ok (.aload_n 0, 1) := by decide +kernel
theorem dX9_wait_43 : decode cX9_wait 43 = .ok (.bipush (-4), 2) := by decide +kernel
theorem dX9_wait_45 : decode cX9_wait 45 = .ok (.invokevirtual 59, 3) := by decide +kernel
theorem dX9_wait_48 : decode cX9_wait 48 = .ok (.ireturn, 1) := by decide +kernel
theorem dX9_wait_49 : decode cX9_wait 49 = .ok (.aload_n 3, 1) := by decide +kernel
theorem dX9_wait_50 : decode cX9_wait 50 = .ok (.aload 4, 2) := by decide +kernel
theorem dX9_wait_52 : decode cX9_wait 52 = .ok (.iload 5, 2) := by decide +kernel
theorem dX9_wait_54 : decode cX9_wait 54 = .ok (.invokestatic 99, 3) := by decide +kernel
theorem dX9_wait_57 : decode cX9_wait 57 = .ok (.ifCond .eq 10, 3) := by decide +kernel
theorem dX9_wait_60 : decode cX9_wait 60 = .ok (.aload_n 0, 1) := by decide +kernel
theorem dX9_wait_61 : decode cX9_wait 61 = .ok (.bipush (-5), 2) := by decide +kernel
theorem dX9_wait_63 : decode cX9_wait 63 = .ok (.invokevirtual 59, 3) := by decide +kernel
theorem dX9_wait_66 : decode cX9_wait 66 = .ok (.ireturn, 1) := by decide +kernel
theorem dX9_wait_67 : decode cX9_wait 67 = .ok (.aload_n 3, 1) := by decide +kernel
theorem dX9_wait_68 : decode cX9_wait 68 = .ok (.aload 4, 2) := by decide +kernel
theorem dX9_wait_70 : decode cX9_wait 70 = .ok (.iload 5, 2) := by decide +kernel
theorem dX9_wait_72 : decode cX9_wait 72 = .ok (.invokestatic 158, 3) := by decide +kernel
theorem dX9_wait_75 : decode cX9_wait 75 = .ok (.istore 6, 2) := by decide +kernel
theorem dX9_wait_77 : decode cX9_wait 77 = .ok (.iload 6, 2) := by decide +kernel
theorem dX9_wait_79 : decode cX9_wait 79 = .ok (.iconst (-1), 1) := by decide +kernel
theorem dX9_wait_80 : decode cX9_wait 80 = .ok (.if_icmp .ne 12, 3) := by decide +kernel
theorem dX9_wait_83 : decode cX9_wait 83 = .ok (.aload_n 0, 1) := by decide +kernel
theorem dX9_wait_84 : decode cX9_wait 84 = .ok (.bipush (-5), 2) := by decide +kernel
theorem dX9_wait_86 : decode cX9_wait 86 = .ok (.invokevirtual 59, 3) := by decide +kernel
theorem dX9_wait_89 : decode cX9_wait 89 = .ok (.goto 9, 3) := by decide +kernel
theorem dX9_wait_92 : decode cX9_wait 92 = .ok (.aload_n 0, 1) := by decide +kernel
theorem dX9_wait_93 : decode cX9_wait 93 = .ok (.iload 6, 2) := by decide +kernel
theorem dX9_wait_95 : decode cX9_wait 95 = .ok (.invokevirtual 63, 3) := by decide +kernel
theorem dX9_wait_98 : decode cX9_wait 98 = .ok (.ireturn, 1) := by decide +kernel
theorem dX9_come_0 : decode cX9_come 0 = .ok (.iload_n 1, 1) := by decide +kernel
theorem dX9_come_1 : decode cX9_come 1 = .ok (.ifCond .lt 9, 3) := by decide +kernel
theorem dX9_come_4 : decode cX9_come 4 = .ok (.iload_n 1, 1) := by decide +kernel
theorem dX9_come_5 : decode cX9_come 5 = .ok (.ldc 73, 2) := by decide +kernel
theorem dX9_come_7 : decode cX9_come 7 = .ok (.if_icmp .le 9, 3) := by decide +kernel
theorem dX9_come_10 : decode cX9_come 10 = .ok (.aload_n 0, 1) := by decide +kernel
theorem dX9_come_11 : decode cX9_come 11 = .ok (.iconst (-1), 1) := by decide +kernel
theorem dX9_come_12 : decode cX9_come 12 = .ok (.invokevirtual 59, 3) := by decide +kernel
theorem dX9_come_15 : decode cX9_come 15 = .ok (.ireturn, 1) := by decide +kernel
theorem dX9_come_16 : decode cX9_come 16 = .ok (.aload_n 0, 1) := by decide +kernel
theorem dX9_come_17 : decode cX9_come 17 = .ok (.getfield 33, 3) := by decide +kernel
theorem dX9_come_20 : decode cX9_come 20 = .ok (.invokevirtual 161, 3) := by decide +kernel
theorem dX9_come_23 : decode cX9_come 23 = .ok (.ifCond .eq 10, 3) := by decide +kernel
theorem dX9_come_26 : decode cX9_come 26 = .ok (.aload_n 0, 1) := by decide +kernel
theorem dX9_come_27 : decode cX9_come 27 = .ok (.bipush (-3), 2) := by decide +kernel
theorem dX9_come_29 : decode cX9_come 29 = .ok (.invokevirtual 59, 3) := by decide +kernel
theorem dX9_come_32 : decode cX9_come 32 = .ok (.ireturn, 1) := by decide +kernel
theorem dX9_come_33 : decode cX9_come 33 = .ok (.aload_n 0, 1) := by decide +kernel
theorem dX9_come_34 : decode cX9_come 34 = .ok (.getfield 33, 3) := by decide +kernel
theorem dX9_come_37 : decode cX9_come 37 = .ok (.iload_n 1, 1) := by decide +kernel
theorem dX9_come_38 : decode cX9_come 38 = .ok (.i2l, 1) := by decide +kernel
theorem dX9_come_39 : decode cX9_come 39 = .ok (.invokevirtual 164, 3) := by decide +kernel
theorem dX9_come_42 : decode cX9_come 42 = .ok (.aload_n 0, 1) := by decide +kernel
theorem dX9_come_43 : decode cX9_come 43 = .ok (.aload_n 0, 1) := by decide +kernel
theorem dX9_come_44 : decode cX9_come 44 = .ok (.getfield 33, 3) := by decide +kernel
theorem dX9_come_47 : decode cX9_come 47 = .ok (.getfield 168, 3) := by decide +kernel
theorem dX9_come_50 : decode cX9_come 50 = .ok (.invokevirtual 63, 3) := by decide +kernel
theorem dX9_come_53 : decode cX9_come 53 = .ok (.ireturn, 1) := by decide +kernel
theorem dX9_hardest_0 : decode cX9_hardest 0 = .ok (.aload_n 0, 1) := by decide +kernel
theorem dX9_hardest_1 : decode cX9_hardest 1 = .ok (.iload_n 1, 1) := by decide +kernel
theorem dX9_hardest_2 : decode cX9_hardest 2 = .ok (.invokevirtual 90, 3) := by decide +kernel
theorem dX9_hardest_5 : decode cX9_hardest 5 = .ok (.astore_n 3, 1) := by decide +kernel
theorem dX9_hardest_6 : decode cX9_hardest 6 = .ok (.aload_n 3, 1) := by decide +kernel
theorem dX9_hardest_7 : decode cX9_hardest 7 = .ok (.ifnull 21, 3) := by decide +kernel
theorem dX9_hardest_10 : decode cX9_hardest 10 = .ok (.iload_n 2, 1) := by decide +kernel
theorem dX9_hardest_11 : decode cX9_hardest 11 = .ok (.ifCond .lt 17, 3) := by decide +kernel
theorem dX9_hardest_14 : decode cX9_hardest 14 = .ok (.iload_n 2, 1) := by decide +kernel
theorem dX9_hardest_15 : decode cX9_hardest 15 = .ok (.bipush 60, 2) := by decide +kernel
theorem dX9_hardest_17 : decode cX9_hardest 17 = .ok (.if_icmp .gt 11, 3) := by decide +kernel
theorem dX9_hardest_20 : decode cX9_hardest 20 = .ok (.aload_n 3, 1) := by decide +kernel
theorem dX9_hardest_21 : decode cX9_hardest 21 = .ok (.iload_n 2, 1) := by decide +kernel
theorem dX9_hardest_22 : decode cX9_hardest 22 = .ok (.invokestatic 171, 3) := by decide +kernel
theorem dX9_hardest_25 : decode cX9_hardest 25 = .ok (.ifCond .ne 9, 3) := by decide +kernel
theorem dX9_hardest_28 : decode cX9_hardest 28 = .ok (.aload_n 0, 1) := by decide +kernel
theorem dX9_hardest_29 : decode cX9_hardest 29 = .ok (.iconst (-1), 1) := by decide +kernel
theorem dX9_hardest_30 : decode cX9_hardest 30 = .ok (.invokevirtual 59, 3) := by decide +kernel
theorem dX9_hardest_33 : decode cX9_hardest 33 = .ok (.ireturn, 1) := by decide +kernel
theorem dX9_hardest_34 : decode cX9_hardest 34 = .ok (.aload_n 0, 1) := by decide +kernel
theorem dX9_hardest_35 : decode cX9_hardest 35 = .ok (.getfield 33, 3) := by decide +kernel
theorem dX9_hardest_38 : decode cX9_hardest 38 = .ok (.aload_n 3, 1) := by decide +kernel
theorem dX9_hardest_39 : decode cX9_hardest 39 = .ok (.iload_n 2, 1) := by decide +kernel
theorem dX9_hardest_40 : decode cX9_hardest 40 = .ok (.invokevirtual 175, 3) := by decide +kernel
theorem dX9_hardest_43 : decode cX9_hardest 43 = .ok (.aload_n 0, 1) := by decide +kernel
theorem dX9_hardest_44 : decode cX9_hardest 44 = .ok (.aload_n 0, 1) := by decide +kernel
theorem dX9_hardest_45 : decode cX9_hardest 45 = .ok (.getfield 33, 3) := by decide +kernel
theorem dX9_hardest_48 : decode cX9_hardest 48 = .ok (.getfield 168, 3) := by decide +kernel
theorem dX9_hardest_51 : decode cX9_hardest 51 = .ok (.invokevirtual 63, 3) := by decide +kernel
theorem dX9_hardest_54 : decode cX9_hardest 54 = .ok (.ireturn, 1) := by decide +kernel
theorem dX9_stop_0 : decode cX9_stop 0 = .ok (.aload_n 0, 1) := by decide +kernel
theorem dX9_stop_1 : decode cX9_stop 1 = .ok (.getfield 33, 3) := by decide +kernel
theorem dX9_stop_4 : decode cX9_stop 4 = .ok (.getfield 168, 3) := by decide +kernel
theorem dX9_stop_7 : decode cX9_stop 7 = .ok (.istore_n 1, 1) := by decide +kernel
theorem dX9_stop_8 : decode cX9_stop 8 = .ok (.aload_n 0, 1) := by decide +kernel
theorem dX9_stop_9 : decode cX9_stop 9 = .ok (.getfield 33, 3) := by decide +kernel
theorem dX9_stop_12 : decode cX9_stop 12 = .ok (.iconst 0, 1) := by decide +kernel
theorem dX9_stop_13 : decode cX9_stop 13 = .ok (.putfield 168, 3) := by decide +kernel
theorem dX9_stop_16 : decode cX9_stop 16 = .ok (.aload_n 0, 1) := by decide +kernel
theorem dX9_stop_17 : decode cX9_stop 17 = .ok (.iload_n 1, 1) := by decide +kernel
theorem dX9_stop_18 : decode cX9_stop 18 = .ok (.invokevirtual 63, 3) := by decide +kernel
theorem dX9_stop_21 : decode cX9_stop 21 = .ok (.ireturn, 1) := by decide +kernel
theorem dX9_serve_0 : decode cX9_serve 0 = .ok (.aload_n 0, 1) := by decide +kernel
theorem dX9_serve_1 : decode cX9_serve 1 = .ok (.iload_n 1, 1) := by decide +kernel
theorem dX9_serve_2 : decode cX9_serve 2 = .ok (.invokevirtual 90, 3) := by decide +kernel
theorem dX9_serve_5 : decode cX9_serve 5 = .ok (.ifnonnull 9, 3) := by decide +kernel
theorem dX9_serve_8 : decode cX9_serve 8 = .ok (.aload_n 0, 1) := by decide +kernel
theorem dX9_serve_9 : decode cX9_serve 9 = .ok (.iconst (-1), 1) := by decide +kernel
theorem dX9_serve_10 : decode cX9_serve 10 = .ok (.invokevirtual 59, 3) := by decide +kernel
theorem dX9_serve_13 : decode cX9_serve 13 = .ok (.ireturn, 1) := by decide +kernel
theorem dX9_serve_14 : decode cX9_serve 14 = .ok (.aload_n 0, 1) := by decide +kernel
theorem dX9_serve_15 : decode cX9_serve 15 = .ok (.iload_n 1, 1) := by decide +kernel
theorem dX9_serve_16 : decode cX9_serve 16 = .ok (.putfield 37, 3) := by decide +kernel
theorem dX9_serve_19 : decode cX9_serve 19 = .ok (.aload_n 0, 1) := by decide +kernel
theorem dX9_serve_20 : decode cX9_serve 20 = .ok (.iconst 1, 1) := by decide +kernel
theorem dX9_serve_21 : decode cX9_serve 21 = .ok (.invokevirtual 63, 3) := by decide +kernel
theorem dX9_serve_24 : decode cX9_serve 24 = .ok (.ireturn, 1) := by decide +kernel
theorem dX9_moved_0 : decode cX9_moved 0 = .ok (.iload_n 1, 1) := by decide +kernel
theorem dX9_moved_1 : decode cX9_moved 1 = .ok (.ifCond .lt 19, 3) := by decide +kernel
theorem dX9_moved_4 : decode cX9_moved 4 = .ok (.iload_n 1, 1) := by decide +kernel
theorem dX9_moved_5 : decode cX9_moved 5 = .ok (.iconst 2, 1) := by decide +kernel
theorem dX9_moved_6 : decode cX9_moved 6 = .ok (.if_icmp .gt 14, 3) := by decide +kernel
theorem dX9_moved_9 : decode cX9_moved 9 = .ok (.iload_n 2, 1) := by decide +kernel
theorem dX9_moved_10 : decode cX9_moved 10 = .ok (.ifCond .lt 10, 3) := by decide +kernel
theorem dX9_moved_13 : decode cX9_moved 13 = .ok (.iload_n 2, 1) := by decide +kernel
theorem dX9_moved_14 : decode cX9_moved 14 = .ok (.sipush 600, 3) := by decide +kernel
theorem dX9_moved_17 : decode cX9_moved 17 = .ok (.if_icmp .le 9, 3) := by decide +kernel
theorem dX9_moved_20 : decode cX9_moved 20 = .ok (.aload_n 0, 1) := by decide +kernel
theorem dX9_moved_21 : decode cX9_moved 21 = .ok (.iconst (-1), 1) := by decide +kernel
theorem dX9_moved_22 : decode cX9_moved 22 = .ok (.invokevirtual 114, 3) := by decide +kernel
theorem dX9_moved_25 : decode cX9_moved 25 = .ok (.lreturn, 1) := by decide +kernel
theorem dX9_moved_26 : decode cX9_moved 26 = .ok (.iload_n 1, 1) := by decide +kernel
theorem dX9_moved_27 : decode cX9_moved 27 = .ok (.ifCond .ne 16, 3) := by decide +kernel
theorem dX9_moved_30 : decode cX9_moved 30 = .ok (.aload_n 0, 1) := by decide +kernel
theorem dX9_moved_31 : decode cX9_moved 31 = .ok (.aload_n 0, 1) := by decide +kernel
theorem dX9_moved_32 : decode cX9_moved 32 = .ok (.getfield 33, 3) := by decide +kernel
theorem dX9_moved_35 : decode cX9_moved 35 = .ok (.iload_n 2, 1) := by decide +kernel
theorem dX9_moved_36 : decode cX9_moved 36 = .ok (.invokevirtual 179, 3) := by decide +kernel
theorem dX9_moved_39 : decode cX9_moved 39 = .ok (.invokevirtual 122, 3) := by decide +kernel
theorem dX9_moved_42 : decode cX9_moved 42 = .ok (.lreturn, 1) := by decide +kernel
theorem dX9_moved_43 : decode cX9_moved 43 = .ok (.aload_n 0, 1) := by decide +kernel
theorem dX9_moved_44 : decode cX9_moved 44 = .ok (.aload_n 0, 1) := by decide +kernel
theorem dX9_moved_45 : decode cX9_moved 45 = .ok (.getfield 37, 3) := by decide +kernel
theorem dX9_moved_48 : decode cX9_moved 48 = .ok (.invokevirtual 90, 3) := by decide +kernel
theorem dX9_moved_51 : decode cX9_moved 51 = .ok (.astore_n 3, 1) := by decide +kernel
theorem dX9_moved_52 : decode cX9_moved 52 = .ok (.aload_n 3, 1) := by decide +kernel
theorem dX9_moved_53 : decode cX9_moved 53 = .ok (.ifnonnull 10, 3) := by decide +kernel
theorem dX9_moved_56 : decode cX9_moved 56 = .ok (.aload_n 0, 1) := by decide +kernel
theorem dX9_moved_57 : decode cX9_moved 57 = .ok (.bipush (-2), 2) := by decide +kernel
theorem dX9_moved_59 : decode cX9_moved 59 = .ok (.invokevirtual 114, 3) := by decide +kernel
theorem dX9_moved_62 : decode cX9_moved 62 = .ok (.lreturn, 1) := by decide +kernel
theorem dX9_moved_63 : decode cX9_moved 63 = .ok (.aload_n 0, 1) := by decide +kernel
theorem dX9_moved_64 : decode cX9_moved 64 = .ok (.iload_n 1, 1) := by decide +kernel
theorem dX9_moved_65 : decode cX9_moved 65 = .ok (.iconst 1, 1) := by decide +kernel
theorem dX9_moved_66 : decode cX9_moved 66 = .ok (.if_icmp .ne 15, 3) := by decide +kernel
theorem dX9_moved_69 : decode cX9_moved 69 = .ok (.aload_n 0, 1) := by decide +kernel
theorem dX9_moved_70 : decode cX9_moved 70 = .ok (.getfield 33, 3) := by decide +kernel
theorem dX9_moved_73 : decode cX9_moved 73 = .ok (.aload_n 3, 1) := by decide +kernel
theorem dX9_moved_74 : decode cX9_moved 74 = .ok (.iload_n 2, 1) := by decide +kernel
theorem dX9_moved_75 : decode cX9_moved 75 = .ok (.invokevirtual 182, 3) := by decide +kernel
theorem dX9_moved_78 : decode cX9_moved 78 = .ok (.goto 12, 3) := by decide +kernel
theorem dX9_moved_81 : decode cX9_moved 81 = .ok (.aload_n 0, 1) := by decide +kernel
theorem dX9_moved_82 : decode cX9_moved 82 = .ok (.getfield 33, 3) := by decide +kernel
theorem dX9_moved_85 : decode cX9_moved 85 = .ok (.aload_n 3, 1) := by decide +kernel
theorem dX9_moved_86 : decode cX9_moved 86 = .ok (.iload_n 2, 1) := by decide +kernel
theorem dX9_moved_87 : decode cX9_moved 87 = .ok (.invokevirtual 186, 3) := by decide +kernel
theorem dX9_moved_90 : decode cX9_moved 90 = .ok (.invokevirtual 122, 3) := by decide +kernel
theorem dX9_moved_93 : decode cX9_moved 93 = .ok (.lreturn, 1) := by decide +kernel
theorem dX9_late_0 : decode cX9_late 0 = .ok (.iload_n 1, 1) := by decide +kernel
theorem dX9_late_1 : decode cX9_late 1 = .ok (.ifCond .lt 14, 3) := by decide +kernel
theorem dX9_late_4 : decode cX9_late 4 = .ok (.iload_n 1, 1) := by decide +kernel
theorem dX9_late_5 : decode cX9_late 5 = .ok (.aload_n 0, 1) := by decide +kernel
theorem dX9_late_6 : decode cX9_late 6 = .ok (.getfield 33, 3) := by decide +kernel
theorem dX9_late_9 : decode cX9_late 9 = .ok (.getfield 168, 3) := by decide +kernel
theorem dX9_late_12 : decode cX9_late 12 = .ok (.if_icmp .le 9, 3) := by decide +kernel
theorem dX9_late_15 : decode cX9_late 15 = .ok (.aload_n 0, 1) := by decide +kernel
theorem dX9_late_16 : decode cX9_late 16 = .ok (.iconst (-1), 1) := by decide +kernel
theorem dX9_late_17 : decode cX9_late 17 = .ok (.invokevirtual 59, 3) := by decide +kernel
theorem dX9_late_20 : decode cX9_late 20 = .ok (.ireturn, 1) := by decide +kernel
theorem dX9_late_21 : decode cX9_late 21 = .ok (.aload_n 0, 1) := by decide +kernel
theorem dX9_late_22 : decode cX9_late 22 = .ok (.aload_n 0, 1) := by decide +kernel
theorem dX9_late_23 : decode cX9_late 23 = .ok (.getfield 37, 3) := by decide +kernel
theorem dX9_late_26 : decode cX9_late 26 = .ok (.invokevirtual 90, 3) := by decide +kernel
theorem dX9_late_29 : decode cX9_late 29 = .ok (.astore_n 2, 1) := by decide +kernel
theorem dX9_late_30 : decode cX9_late 30 = .ok (.aload_n 2, 1) := by decide +kernel
theorem dX9_late_31 : decode cX9_late 31 = .ok (.ifnonnull 10, 3) := by decide +kernel
theorem dX9_late_34 : decode cX9_late 34 = .ok (.aload_n 0, 1) := by decide +kernel
theorem dX9_late_35 : decode cX9_late 35 = .ok (.bipush (-2), 2) := by decide +kernel
theorem dX9_late_37 : decode cX9_late 37 = .ok (.invokevirtual 59, 3) := by decide +kernel
theorem dX9_late_40 : decode cX9_late 40 = .ok (.ireturn, 1) := by decide +kernel
theorem dX9_late_41 : decode cX9_late 41 = .ok (.aload_n 0, 1) := by decide +kernel
theorem dX9_late_42 : decode cX9_late 42 = .ok (.getfield 33, 3) := by decide +kernel
theorem dX9_late_45 : decode cX9_late 45 = .ok (.aload_n 2, 1) := by decide +kernel
theorem dX9_late_46 : decode cX9_late 46 = .ok (.iload_n 1, 1) := by decide +kernel
theorem dX9_late_47 : decode cX9_late 47 = .ok (.invokevirtual 189, 3) := by decide +kernel
theorem dX9_late_50 : decode cX9_late 50 = .ok (.istore_n 3, 1) := by decide +kernel
theorem dX9_late_51 : decode cX9_late 51 = .ok (.iload_n 3, 1) := by decide +kernel
theorem dX9_late_52 : decode cX9_late 52 = .ok (.iconst (-1), 1) := by decide +kernel
theorem dX9_late_53 : decode cX9_late 53 = .ok (.if_icmp .ne 12, 3) := by decide +kernel
theorem dX9_late_56 : decode cX9_late 56 = .ok (.aload_n 0, 1) := by decide +kernel
theorem dX9_late_57 : decode cX9_late 57 = .ok (.bipush (-5), 2) := by decide +kernel
theorem dX9_late_59 : decode cX9_late 59 = .ok (.invokevirtual 59, 3) := by decide +kernel
theorem dX9_late_62 : decode cX9_late 62 = .ok (.goto 8, 3) := by decide +kernel
theorem dX9_late_65 : decode cX9_late 65 = .ok (.aload_n 0, 1) := by decide +kernel
theorem dX9_late_66 : decode cX9_late 66 = .ok (.iload_n 3, 1) := by decide +kernel
theorem dX9_late_67 : decode cX9_late 67 = .ok (.invokevirtual 63, 3) := by decide +kernel
theorem dX9_late_70 : decode cX9_late 70 = .ok (.ireturn, 1) := by decide +kernel
theorem dX9_mostHeld_0 : decode cX9_mostHeld 0 = .ok (.aload_n 0, 1) := by decide +kernel
theorem dX9_mostHeld_1 : decode cX9_mostHeld 1 = .ok (.aload_n 0, 1) := by decide +kernel
theorem dX9_mostHeld_2 : decode cX9_mostHeld 2 = .ok (.getfield 37, 3) := by decide +kernel
theorem dX9_mostHeld_5 : decode cX9_mostHeld 5 = .ok (.invokevirtual 90, 3) := by decide +kernel
theorem dX9_mostHeld_8 : decode cX9_mostHeld 8 = .ok (.astore_n 1, 1) := by decide +kernel
theorem dX9_mostHeld_9 : decode cX9_mostHeld 9 = .ok (.aload_n 1, 1) := by decide +kernel
theorem dX9_mostHeld_10 : decode cX9_mostHeld 10 = .ok (.ifnonnull 10, 3) := by decide +kernel
theorem dX9_mostHeld_13 : decode cX9_mostHeld 13 = .ok (.aload_n 0, 1) := by decide +kernel
theorem dX9_mostHeld_14 : decode cX9_mostHeld 14 = .ok (.bipush (-2), 2) := by decide +kernel
theorem dX9_mostHeld_16 : decode cX9_mostHeld 16 = .ok (.invokevirtual 114, 3) := by decide +kernel
theorem dX9_mostHeld_19 : decode cX9_mostHeld 19 = .ok (.lreturn, 1) := by decide +kernel
theorem dX9_mostHeld_20 : decode cX9_mostHeld 20 = .ok (.aload_n 0, 1) := by decide +kernel
theorem dX9_mostHeld_21 : decode cX9_mostHeld 21 = .ok (.aload_n 0, 1) := by decide +kernel
theorem dX9_mostHeld_22 : decode cX9_mostHeld 22 = .ok (.getfield 33, 3) := by decide +kernel
theorem dX9_mostHeld_25 : decode cX9_mostHeld 25 = .ok (.aload_n 1, 1) := by decide +kernel
theorem dX9_mostHeld_26 : decode cX9_mostHeld 26 = .ok (.invokevirtual 193, 3) := by decide +kernel
theorem dX9_mostHeld_29 : decode cX9_mostHeld 29 = .ok (.invokevirtual 122, 3) := by decide +kernel
theorem dX9_mostHeld_32 : decode cX9_mostHeld 32 = .ok (.lreturn, 1) := by decide +kernel
theorem dX9_mostLate_0 : decode cX9_mostLate 0 = .ok (.aload_n 0, 1) := by decide +kernel
theorem dX9_mostLate_1 : decode cX9_mostLate 1 = .ok (.aload_n 0, 1) := by decide +kernel
theorem dX9_mostLate_2 : decode cX9_mostLate 2 = .ok (.getfield 37, 3) := by decide +kernel
theorem dX9_mostLate_5 : decode cX9_mostLate 5 = .ok (.invokevirtual 90, 3) := by decide +kernel
theorem dX9_mostLate_8 : decode cX9_mostLate 8 = .ok (.astore_n 1, 1) := by decide +kernel
theorem dX9_mostLate_9 : decode cX9_mostLate 9 = .ok (.aload_n 1, 1) := by decide +kernel
theorem dX9_mostLate_10 : decode cX9_mostLate 10 = .ok (.ifnonnull 10, 3) := by decide +kernel
theorem dX9_mostLate_13 : decode cX9_mostLate 13 = .ok (.aload_n 0, 1) := by decide +kernel
theorem dX9_mostLate_14 : decode cX9_mostLate 14 = .ok (.bipush (-2), 2) := by decide +kernel
theorem dX9_mostLate_16 : decode cX9_mostLate 16 = .ok (.invokevirtual 59, 3) := by decide +kernel
theorem dX9_mostLate_19 : decode cX9_mostLate 19 = .ok (.ireturn, 1) := by decide +kernel
theorem dX9_mostLate_20 : decode cX9_mostLate 20 = .ok (.aload_n 0, 1) := by decide +kernel
theorem dX9_mostLate_21 : decode cX9_mostLate 21 = .ok (.getfield 33, 3) := by decide +kernel
theorem dX9_mostLate_24 : decode cX9_mostLate 24 = .ok (.aload_n 1, 1) := by decide +kernel
theorem dX9_mostLate_25 : decode cX9_mostLate 25 = .ok (.invokevirtual 197, 3) := by decide +kernel
theorem dX9_mostLate_28 : decode cX9_mostLate 28 = .ok (.istore_n 2, 1) := by decide +kernel
theorem dX9_mostLate_29 : decode cX9_mostLate 29 = .ok (.iload_n 2, 1) := by decide +kernel
theorem dX9_mostLate_30 : decode cX9_mostLate 30 = .ok (.iconst (-1), 1) := by decide +kernel
theorem dX9_mostLate_31 : decode cX9_mostLate 31 = .ok (.if_icmp .ne 12, 3) := by decide +kernel
theorem dX9_mostLate_34 : decode cX9_mostLate 34 = .ok (.aload_n 0, 1) := by decide +kernel
theorem dX9_mostLate_35 : decode cX9_mostLate 35 = .ok (.bipush (-5), 2) := by decide +kernel
theorem dX9_mostLate_37 : decode cX9_mostLate 37 = .ok (.invokevirtual 59, 3) := by decide +kernel
theorem dX9_mostLate_40 : decode cX9_mostLate 40 = .ok (.goto 8, 3) := by decide +kernel
theorem dX9_mostLate_43 : decode cX9_mostLate 43 = .ok (.aload_n 0, 1) := by decide +kernel
theorem dX9_mostLate_44 : decode cX9_mostLate 44 = .ok (.iload_n 2, 1) := by decide +kernel
theorem dX9_mostLate_45 : decode cX9_mostLate 45 = .ok (.invokevirtual 63, 3) := by decide +kernel
theorem dX9_mostLate_48 : decode cX9_mostLate 48 = .ok (.ireturn, 1) := by decide +kernel
theorem dX9_keeps_0 : decode cX9_keeps 0 = .ok (.aload_n 0, 1) := by decide +kernel
theorem dX9_keeps_1 : decode cX9_keeps 1 = .ok (.iload_n 1, 1) := by decide +kernel
theorem dX9_keeps_2 : decode cX9_keeps 2 = .ok (.invokevirtual 90, 3) := by decide +kernel
theorem dX9_keeps_5 : decode cX9_keeps 5 = .ok (.astore_n 2, 1) := by decide +kernel
theorem dX9_keeps_6 : decode cX9_keeps 6 = .ok (.aload_n 2, 1) := by decide +kernel
theorem dX9_keeps_7 : decode cX9_keeps 7 = .ok (.ifnonnull 9, 3) := by decide +kernel
theorem dX9_keeps_10 : decode cX9_keeps 10 = .ok (.aload_n 0, 1) := by decide +kernel
theorem dX9_keeps_11 : decode cX9_keeps 11 = .ok (.iconst (-1), 1) := by decide +kernel
theorem dX9_keeps_12 : decode cX9_keeps 12 = .ok (.invokevirtual 59, 3) := by decide +kernel
theorem dX9_keeps_15 : decode cX9_keeps 15 = .ok (.ireturn, 1) := by decide +kernel
theorem dX9_keeps_16 : decode cX9_keeps 16 = .ok (.aload_n 0, 1) := by decide +kernel
theorem dX9_keeps_17 : decode cX9_keeps 17 = .ok (.aload_n 0, 1) := by decide +kernel
theorem dX9_keeps_18 : decode cX9_keeps 18 = .ok (.getfield 33, 3) := by decide +kernel
theorem dX9_keeps_21 : decode cX9_keeps 21 = .ok (.aload_n 2, 1) := by decide +kernel
theorem dX9_keeps_22 : decode cX9_keeps 22 = .ok (.invokevirtual 200, 3) := by decide +kernel
theorem dX9_keeps_25 : decode cX9_keeps 25 = .ok (.ifCond .eq 7, 3) := by decide +kernel
theorem dX9_keeps_28 : decode cX9_keeps 28 = .ok (.iconst 1, 1) := by decide +kernel
theorem dX9_keeps_29 : decode cX9_keeps 29 = .ok (.goto 4, 3) := by decide +kernel
theorem dX9_keeps_32 : decode cX9_keeps 32 = .ok (.iconst 0, 1) := by decide +kernel
theorem dX9_keeps_33 : decode cX9_keeps 33 = .ok (.invokevirtual 63, 3) := by decide +kernel
theorem dX9_keeps_36 : decode cX9_keeps 36 = .ok (.ireturn, 1) := by decide +kernel
theorem dX9_count_0 : decode cX9_count 0 = .ok (.iload_n 1, 1) := by decide +kernel
theorem dX9_count_1 : decode cX9_count 1 = .ok (.tableswitch 71 0 4 #[35, 40, 45, 53, 58], 35) := by decide +kernel
theorem dX9_count_36 : decode cX9_count 36 = .ok (.aload_n 0, 1) := by decide +kernel
theorem dX9_count_37 : decode cX9_count 37 = .ok (.getfield 15, 3) := by decide +kernel
theorem dX9_count_40 : decode cX9_count 40 = .ok (.ireturn, 1) := by decide +kernel
theorem dX9_count_41 : decode cX9_count 41 = .ok (.aload_n 0, 1) := by decide +kernel
theorem dX9_count_42 : decode cX9_count 42 = .ok (.getfield 27, 3) := by decide +kernel
theorem dX9_count_45 : decode cX9_count 45 = .ok (.ireturn, 1) := by decide +kernel
theorem dX9_count_46 : decode cX9_count 46 = .ok (.aload_n 0, 1) := by decide +kernel
theorem dX9_count_47 : decode cX9_count 47 = .ok (.getfield 33, 3) := by decide +kernel
theorem dX9_count_50 : decode cX9_count 50 = .ok (.getfield 168, 3) := by decide +kernel
theorem dX9_count_53 : decode cX9_count 53 = .ok (.ireturn, 1) := by decide +kernel
theorem dX9_count_54 : decode cX9_count 54 = .ok (.aload_n 0, 1) := by decide +kernel
theorem dX9_count_55 : decode cX9_count 55 = .ok (.getfield 37, 3) := by decide +kernel
theorem dX9_count_58 : decode cX9_count 58 = .ok (.ireturn, 1) := by decide +kernel
theorem dX9_count_59 : decode cX9_count 59 = .ok (.aload_n 0, 1) := by decide +kernel
theorem dX9_count_60 : decode cX9_count 60 = .ok (.getfield 19, 3) := by decide +kernel
theorem dX9_count_63 : decode cX9_count 63 = .ok (.ifCond .eq 7, 3) := by decide +kernel
theorem dX9_count_66 : decode cX9_count 66 = .ok (.iconst 1, 1) := by decide +kernel
theorem dX9_count_67 : decode cX9_count 67 = .ok (.goto 4, 3) := by decide +kernel
theorem dX9_count_70 : decode cX9_count 70 = .ok (.iconst 0, 1) := by decide +kernel
theorem dX9_count_71 : decode cX9_count 71 = .ok (.ireturn, 1) := by decide +kernel
theorem dX9_count_72 : decode cX9_count 72 = .ok (.iconst (-1), 1) := by decide +kernel
theorem dX9_count_73 : decode cX9_count 73 = .ok (.ireturn, 1) := by decide +kernel
theorem dX9_trace_0 : decode cX9_trace 0 = .ok (.iload_n 1, 1) := by decide +kernel
theorem dX9_trace_1 : decode cX9_trace 1 = .ok (.ifCond .lt 8, 3) := by decide +kernel
theorem dX9_trace_4 : decode cX9_trace 4 = .ok (.iload_n 1, 1) := by decide +kernel
theorem dX9_trace_5 : decode cX9_trace 5 = .ok (.iconst 5, 1) := by decide +kernel
theorem dX9_trace_6 : decode cX9_trace 6 = .ok (.if_icmp .lt 5, 3) := by decide +kernel
theorem dX9_trace_9 : decode cX9_trace 9 = .ok (.iconst (-1), 1) := by decide +kernel
theorem dX9_trace_10 : decode cX9_trace 10 = .ok (.ireturn, 1) := by decide +kernel
theorem dX9_trace_11 : decode cX9_trace 11 = .ok (.aload_n 0, 1) := by decide +kernel
theorem dX9_trace_12 : decode cX9_trace 12 = .ok (.getfield 43, 3) := by decide +kernel
theorem dX9_trace_15 : decode cX9_trace 15 = .ok (.iload_n 1, 1) := by decide +kernel
theorem dX9_trace_16 : decode cX9_trace 16 = .ok (.invokevirtual 204, 3) := by decide +kernel
theorem dX9_trace_19 : decode cX9_trace 19 = .ok (.ireturn, 1) := by decide +kernel
theorem dX9_status_0 : decode cX9_status 0 = .ok (.aload_n 0, 1) := by decide +kernel
theorem dX9_status_1 : decode cX9_status 1 = .ok (.getfield 54, 3) := by decide +kernel
theorem dX9_status_4 : decode cX9_status 4 = .ok (.ireturn, 1) := by decide +kernel
theorem dX9_clear_0 : decode cX9_clear 0 = .ok (.iconst 0, 1) := by decide +kernel
theorem dX9_clear_1 : decode cX9_clear 1 = .ok (.istore_n 1, 1) := by decide +kernel
theorem dX9_clear_2 : decode cX9_clear 2 = .ok (.iload_n 1, 1) := by decide +kernel
theorem dX9_clear_3 : decode cX9_clear 3 = .ok (.aload_n 0, 1) := by decide +kernel
theorem dX9_clear_4 : decode cX9_clear 4 = .ok (.getfield 11, 3) := by decide +kernel
theorem dX9_clear_7 : decode cX9_clear 7 = .ok (.arraylength, 1) := by decide +kernel
theorem dX9_clear_8 : decode cX9_clear 8 = .ok (.if_icmp .ge 16, 3) := by decide +kernel
theorem dX9_clear_11 : decode cX9_clear 11 = .ok (.aload_n 0, 1) := by decide +kernel
theorem dX9_clear_12 : decode cX9_clear 12 = .ok (.getfield 11, 3) := by decide +kernel
theorem dX9_clear_15 : decode cX9_clear 15 = .ok (.iload_n 1, 1) := by decide +kernel
theorem dX9_clear_16 : decode cX9_clear 16 = .ok (.aconst_null, 1) := by decide +kernel
theorem dX9_clear_17 : decode cX9_clear 17 = .ok (.aastore, 1) := by decide +kernel
theorem dX9_clear_18 : decode cX9_clear 18 = .ok (.iinc 1 1, 3) := by decide +kernel
theorem dX9_clear_21 : decode cX9_clear 21 = .ok (.goto (-19), 3) := by decide +kernel
theorem dX9_clear_24 : decode cX9_clear 24 = .ok (.aload_n 0, 1) := by decide +kernel
theorem dX9_clear_25 : decode cX9_clear 25 = .ok (.iconst 0, 1) := by decide +kernel
theorem dX9_clear_26 : decode cX9_clear 26 = .ok (.putfield 15, 3) := by decide +kernel
theorem dX9_clear_29 : decode cX9_clear 29 = .ok (.aload_n 0, 1) := by decide +kernel
theorem dX9_clear_30 : decode cX9_clear 30 = .ok (.iconst 0, 1) := by decide +kernel
theorem dX9_clear_31 : decode cX9_clear 31 = .ok (.putfield 19, 3) := by decide +kernel
theorem dX9_clear_34 : decode cX9_clear 34 = .ok (.aload_n 0, 1) := by decide +kernel
theorem dX9_clear_35 : decode cX9_clear 35 = .ok (.iconst 0, 1) := by decide +kernel
theorem dX9_clear_36 : decode cX9_clear 36 = .ok (.putfield 27, 3) := by decide +kernel
theorem dX9_clear_39 : decode cX9_clear 39 = .ok (.aload_n 0, 1) := by decide +kernel
theorem dX9_clear_40 : decode cX9_clear 40 = .ok (.getfield 33, 3) := by decide +kernel
theorem dX9_clear_43 : decode cX9_clear 43 = .ok (.iconst 0, 1) := by decide +kernel
theorem dX9_clear_44 : decode cX9_clear 44 = .ok (.putfield 168, 3) := by decide +kernel
theorem dX9_clear_47 : decode cX9_clear 47 = .ok (.aload_n 0, 1) := by decide +kernel
theorem dX9_clear_48 : decode cX9_clear 48 = .ok (.iconst (-1), 1) := by decide +kernel
theorem dX9_clear_49 : decode cX9_clear 49 = .ok (.putfield 37, 3) := by decide +kernel
theorem dX9_clear_52 : decode cX9_clear 52 = .ok (.aload_n 0, 1) := by decide +kernel
theorem dX9_clear_53 : decode cX9_clear 53 = .ok (.iconst 1, 1) := by decide +kernel
theorem dX9_clear_54 : decode cX9_clear 54 = .ok (.invokevirtual 63, 3) := by decide +kernel
theorem dX9_clear_57 : decode cX9_clear 57 = .ok (.ireturn, 1) := by decide +kernel
theorem dX9_refused_0 : decode cX9_refused 0 = .ok (.aload_n 0, 1) := by decide +kernel
theorem dX9_refused_1 : decode cX9_refused 1 = .ok (.iload_n 1, 1) := by decide +kernel
theorem dX9_refused_2 : decode cX9_refused 2 = .ok (.putfield 54, 3) := by decide +kernel
theorem dX9_refused_5 : decode cX9_refused 5 = .ok (.iload_n 1, 1) := by decide +kernel
theorem dX9_refused_6 : decode cX9_refused 6 = .ok (.ireturn, 1) := by decide +kernel
theorem dX9_refusedAmount_0 : decode cX9_refusedAmount 0 = .ok (.aload_n 0, 1) := by decide +kernel
theorem dX9_refusedAmount_1 : decode cX9_refusedAmount 1 = .ok (.iload_n 1, 1) := by decide +kernel
theorem dX9_refusedAmount_2 : decode cX9_refusedAmount 2 = .ok (.putfield 54, 3) := by decide +kernel
theorem dX9_refusedAmount_5 : decode cX9_refusedAmount 5 = .ok (.ldc2_w 207, 3) := by decide +kernel
theorem dX9_refusedAmount_8 : decode cX9_refusedAmount 8 = .ok (.lreturn, 1) := by decide +kernel
theorem dX9_granted_0 : decode cX9_granted 0 = .ok (.aload_n 0, 1) := by decide +kernel
theorem dX9_granted_1 : decode cX9_granted 1 = .ok (.iconst 0, 1) := by decide +kernel
theorem dX9_granted_2 : decode cX9_granted 2 = .ok (.putfield 54, 3) := by decide +kernel
theorem dX9_granted_5 : decode cX9_granted 5 = .ok (.iload_n 1, 1) := by decide +kernel
theorem dX9_granted_6 : decode cX9_granted 6 = .ok (.ireturn, 1) := by decide +kernel
theorem dX9_grantedAmount_0 : decode cX9_grantedAmount 0 = .ok (.aload_n 0, 1) := by decide +kernel
theorem dX9_grantedAmount_1 : decode cX9_grantedAmount 1 = .ok (.iconst 0, 1) := by decide +kernel
theorem dX9_grantedAmount_2 : decode cX9_grantedAmount 2 = .ok (.putfield 54, 3) := by decide +kernel
theorem dX9_grantedAmount_5 : decode cX9_grantedAmount 5 = .ok (.lload_n 1, 1) := by decide +kernel
theorem dX9_grantedAmount_6 : decode cX9_grantedAmount 6 = .ok (.lreturn, 1) := by decide +kernel
theorem dX9_curveNumbered_0 : decode cX9_curveNumbered 0 = .ok (.iload_n 1, 1) := by decide +kernel
theorem dX9_curveNumbered_1 : decode cX9_curveNumbered 1 = .ok (.ifCond .lt 20, 3) := by decide +kernel
theorem dX9_curveNumbered_4 : decode cX9_curveNumbered 4 = .ok (.iload_n 1, 1) := by decide +kernel
theorem dX9_curveNumbered_5 : decode cX9_curveNumbered 5 = .ok (.aload_n 0, 1) := by decide +kernel
theorem dX9_curveNumbered_6 : decode cX9_curveNumbered 6 = .ok (.getfield 15, 3) := by decide +kernel
theorem dX9_curveNumbered_9 : decode cX9_curveNumbered 9 = .ok (.if_icmp .ge 12, 3) := by decide +kernel
theorem dX9_curveNumbered_12 : decode cX9_curveNumbered 12 = .ok (.iload_n 1, 1) := by decide +kernel
theorem dX9_curveNumbered_13 : decode cX9_curveNumbered 13 = .ok (.aload_n 0, 1) := by decide +kernel
theorem dX9_curveNumbered_14 : decode cX9_curveNumbered 14 = .ok (.getfield 11, 3) := by decide +kernel
theorem dX9_curveNumbered_17 : decode cX9_curveNumbered 17 = .ok (.arraylength, 1) := by decide +kernel
theorem dX9_curveNumbered_18 : decode cX9_curveNumbered 18 = .ok (.if_icmp .lt 7, 3) := by decide +kernel
theorem dX9_curveNumbered_21 : decode cX9_curveNumbered 21 = .ok (.aconst_null, 1) := by decide +kernel
theorem dX9_curveNumbered_22 : decode cX9_curveNumbered 22 = .ok (.goto 9, 3) := by decide +kernel
theorem dX9_curveNumbered_25 : decode cX9_curveNumbered 25 = .ok (.aload_n 0, 1) := by decide +kernel
theorem dX9_curveNumbered_26 : decode cX9_curveNumbered 26 = .ok (.getfield 11, 3) := by decide +kernel
theorem dX9_curveNumbered_29 : decode cX9_curveNumbered 29 = .ok (.iload_n 1, 1) := by decide +kernel
theorem dX9_curveNumbered_30 : decode cX9_curveNumbered 30 = .ok (.aaload, 1) := by decide +kernel
theorem dX9_curveNumbered_31 : decode cX9_curveNumbered 31 = .ok (.areturn, 1) := by decide +kernel
theorem dX9_kept_0 : decode cX9_kept 0 = .ok (.aload_n 1, 1) := by decide +kernel
theorem dX9_kept_1 : decode cX9_kept 1 = .ok (.ifnonnull 10, 3) := by decide +kernel
theorem dX9_kept_4 : decode cX9_kept 4 = .ok (.aload_n 0, 1) := by decide +kernel
theorem dX9_kept_5 : decode cX9_kept 5 = .ok (.bipush (-4), 2) := by decide +kernel
theorem dX9_kept_7 : decode cX9_kept 7 = .ok (.invokevirtual 59, 3) := by decide +kernel
theorem dX9_kept_10 : decode cX9_kept 10 = .ok (.ireturn, 1) := by decide +kernel
theorem dX9_kept_11 : decode cX9_kept 11 = .ok (.aload_n 0, 1) := by decide +kernel
theorem dX9_kept_12 : decode cX9_kept 12 = .ok (.getfield 15, 3) := by decide +kernel
theorem dX9_kept_15 : decode cX9_kept 15 = .ok (.ifCond .lt 15, 3) := by decide +kernel
theorem dX9_kept_18 : decode cX9_kept 18 = .ok (.aload_n 0, 1) := by decide +kernel
theorem dX9_kept_19 : decode cX9_kept 19 = .ok (.getfield 15, 3) := by decide +kernel
theorem dX9_kept_22 : decode cX9_kept 22 = .ok (.aload_n 0, 1) := by decide +kernel
theorem dX9_kept_23 : decode cX9_kept 23 = .ok (.getfield 11, 3) := by decide +kernel
theorem dX9_kept_26 : decode cX9_kept 26 = .ok (.arraylength, 1) := by decide +kernel
theorem dX9_kept_27 : decode cX9_kept 27 = .ok (.if_icmp .lt 10, 3) := by decide +kernel
theorem dX9_kept_30 : decode cX9_kept 30 = .ok (.aload_n 0, 1) := by decide +kernel
theorem dX9_kept_31 : decode cX9_kept 31 = .ok (.bipush (-3), 2) := by decide +kernel
theorem dX9_kept_33 : decode cX9_kept 33 = .ok (.invokevirtual 59, 3) := by decide +kernel
theorem dX9_kept_36 : decode cX9_kept 36 = .ok (.ireturn, 1) := by decide +kernel
theorem dX9_kept_37 : decode cX9_kept 37 = .ok (.aload_n 0, 1) := by decide +kernel
theorem dX9_kept_38 : decode cX9_kept 38 = .ok (.getfield 11, 3) := by decide +kernel
theorem dX9_kept_41 : decode cX9_kept 41 = .ok (.aload_n 0, 1) := by decide +kernel
theorem dX9_kept_42 : decode cX9_kept 42 = .ok (.getfield 15, 3) := by decide +kernel
theorem dX9_kept_45 : decode cX9_kept 45 = .ok (.aload_n 1, 1) := by decide +kernel
theorem dX9_kept_46 : decode cX9_kept 46 = .ok (.aastore, 1) := by decide +kernel
theorem dX9_kept_47 : decode cX9_kept 47 = .ok (.aload_n 0, 1) := by decide +kernel
theorem dX9_kept_48 : decode cX9_kept 48 = .ok (.dup, 1) := by decide +kernel
theorem dX9_kept_49 : decode cX9_kept 49 = .ok (.getfield 15, 3) := by decide +kernel
theorem dX9_kept_52 : decode cX9_kept 52 = .ok (.iconst 1, 1) := by decide +kernel
theorem dX9_kept_53 : decode cX9_kept 53 = .ok (.iadd, 1) := by decide +kernel
theorem dX9_kept_54 : decode cX9_kept 54 = .ok (.putfield 15, 3) := by decide +kernel
theorem dX9_kept_57 : decode cX9_kept 57 = .ok (.aload_n 0, 1) := by decide +kernel
theorem dX9_kept_58 : decode cX9_kept 58 = .ok (.iconst 1, 1) := by decide +kernel
theorem dX9_kept_59 : decode cX9_kept 59 = .ok (.putfield 19, 3) := by decide +kernel
theorem dX9_kept_62 : decode cX9_kept 62 = .ok (.aload_n 0, 1) := by decide +kernel
theorem dX9_kept_63 : decode cX9_kept 63 = .ok (.aload_n 0, 1) := by decide +kernel
theorem dX9_kept_64 : decode cX9_kept 64 = .ok (.getfield 15, 3) := by decide +kernel
theorem dX9_kept_67 : decode cX9_kept 67 = .ok (.iconst 1, 1) := by decide +kernel
theorem dX9_kept_68 : decode cX9_kept 68 = .ok (.isub, 1) := by decide +kernel
theorem dX9_kept_69 : decode cX9_kept 69 = .ok (.invokevirtual 63, 3) := by decide +kernel
theorem dX9_kept_72 : decode cX9_kept 72 = .ok (.ireturn, 1) := by decide +kernel
theorem dX9_rowComesRound_0 : decode cX9_rowComesRound 0 = .ok (.aload_n 0, 1) := by decide +kernel
theorem dX9_rowComesRound_1 : decode cX9_rowComesRound 1 = .ok (.getfield 27, 3) := by decide +kernel
theorem dX9_rowComesRound_4 : decode cX9_rowComesRound 4 = .ok (.iload_n 1, 1) := by decide +kernel
theorem dX9_rowComesRound_5 : decode cX9_rowComesRound 5 = .ok (.isub, 1) := by decide +kernel
theorem dX9_rowComesRound_6 : decode cX9_rowComesRound 6 = .ok (.istore_n 3, 1) := by decide +kernel
theorem dX9_rowComesRound_7 : decode cX9_rowComesRound 7 = .ok (.iload_n 1, 1) := by decide +kernel
theorem dX9_rowComesRound_8 : decode cX9_rowComesRound 8 = .ok (.iconst 1, 1) := by decide +kernel
theorem dX9_rowComesRound_9 : decode cX9_rowComesRound 9 = .ok (.if_icmp .lt 19, 3) := by decide +kernel
theorem dX9_rowComesRound_12 : decode cX9_rowComesRound 12 = .ok (.iload_n 3, 1) := by decide +kernel
theorem dX9_rowComesRound_13 : decode cX9_rowComesRound 13 = .ok (.ifCond .lt 15, 3) := by decide +kernel
theorem dX9_rowComesRound_16 : decode cX9_rowComesRound 16 = .ok (.aload_n 0, 1) := by decide +kernel
theorem dX9_rowComesRound_17 : decode cX9_rowComesRound 17 = .ok (.getfield 27, 3) := by decide +kernel
theorem dX9_rowComesRound_20 : decode cX9_rowComesRound 20 = .ok (.aload_n 0, 1) := by decide +kernel
theorem dX9_rowComesRound_21 : decode cX9_rowComesRound 21 = .ok (.getfield 23, 3) := by decide +kernel
theorem dX9_rowComesRound_24 : decode cX9_rowComesRound 24 = .ok (.arraylength, 1) := by decide +kernel
theorem dX9_rowComesRound_25 : decode cX9_rowComesRound 25 = .ok (.if_icmp .le 5, 3) := by decide +kernel
theorem dX9_rowComesRound_28 : decode cX9_rowComesRound 28 = .ok (.iconst 0, 1) := by decide +kernel
theorem dX9_rowComesRound_29 : decode cX9_rowComesRound 29 = .ok (.ireturn, 1) := by decide +kernel
theorem dX9_rowComesRound_30 : decode cX9_rowComesRound 30 = .ok (.iconst 1, 1) := by decide +kernel
theorem dX9_rowComesRound_31 : decode cX9_rowComesRound 31 = .ok (.istore 4, 2) := by decide +kernel
theorem dX9_rowComesRound_33 : decode cX9_rowComesRound 33 = .ok (.iload 4, 2) := by decide +kernel
theorem dX9_rowComesRound_35 : decode cX9_rowComesRound 35 = .ok (.aload_n 0, 1) := by decide +kernel
theorem dX9_rowComesRound_36 : decode cX9_rowComesRound 36 = .ok (.getfield 27, 3) := by decide +kernel
theorem dX9_rowComesRound_39 : decode cX9_rowComesRound 39 = .ok (.if_icmp .ge 31, 3) := by decide +kernel
theorem dX9_rowComesRound_42 : decode cX9_rowComesRound 42 = .ok (.aload_n 0, 1) := by decide +kernel
theorem dX9_rowComesRound_43 : decode cX9_rowComesRound 43 = .ok (.getfield 23, 3) := by decide +kernel
theorem dX9_rowComesRound_46 : decode cX9_rowComesRound 46 = .ok (.iload 4, 2) := by decide +kernel
theorem dX9_rowComesRound_48 : decode cX9_rowComesRound 48 = .ok (.laload, 1) := by decide +kernel
theorem dX9_rowComesRound_49 : decode cX9_rowComesRound 49 = .ok (.aload_n 0, 1) := by decide +kernel
theorem dX9_rowComesRound_50 : decode cX9_rowComesRound 50 = .ok (.getfield 23, 3) := by decide +kernel
theorem dX9_rowComesRound_53 : decode cX9_rowComesRound 53 = .ok (.iload 4, 2) := by decide +kernel
theorem dX9_rowComesRound_55 : decode cX9_rowComesRound 55 = .ok (.iconst 1, 1) := by decide +kernel
theorem dX9_rowComesRound_56 : decode cX9_rowComesRound 56 = .ok (.isub, 1) := by decide +kernel
theorem dX9_rowComesRound_57 : decode cX9_rowComesRound 57 = .ok (.laload, 1) := by decide +kernel
theorem dX9_rowComesRound_58 : decode cX9_rowComesRound 58 = .ok (.lcmp, 1) := by decide +kernel
theorem dX9_rowComesRound_59 : decode cX9_rowComesRound 59 = .ok (.ifCond .ge 5, 3) := by decide +kernel
theorem dX9_rowComesRound_62 : decode cX9_rowComesRound 62 = .ok (.iconst 0, 1) := by decide +kernel
theorem dX9_rowComesRound_63 : decode cX9_rowComesRound 63 = .ok (.ireturn, 1) := by decide +kernel
theorem dX9_rowComesRound_64 : decode cX9_rowComesRound 64 = .ok (.iinc 4 1, 3) := by decide +kernel
theorem dX9_rowComesRound_67 : decode cX9_rowComesRound 67 = .ok (.goto (-34), 3) := by decide +kernel
theorem dX9_rowComesRound_70 : decode cX9_rowComesRound 70 = .ok (.aload_n 0, 1) := by decide +kernel
theorem dX9_rowComesRound_71 : decode cX9_rowComesRound 71 = .ok (.getfield 23, 3) := by decide +kernel
theorem dX9_rowComesRound_74 : decode cX9_rowComesRound 74 = .ok (.iload_n 3, 1) := by decide +kernel
theorem dX9_rowComesRound_75 : decode cX9_rowComesRound 75 = .ok (.laload, 1) := by decide +kernel
theorem dX9_rowComesRound_76 : decode cX9_rowComesRound 76 = .ok (.iload_n 2, 1) := by decide +kernel
theorem dX9_rowComesRound_77 : decode cX9_rowComesRound 77 = .ok (.i2l, 1) := by decide +kernel
theorem dX9_rowComesRound_78 : decode cX9_rowComesRound 78 = .ok (.ladd, 1) := by decide +kernel
theorem dX9_rowComesRound_79 : decode cX9_rowComesRound 79 = .ok (.aload_n 0, 1) := by decide +kernel
theorem dX9_rowComesRound_80 : decode cX9_rowComesRound 80 = .ok (.getfield 23, 3) := by decide +kernel
theorem dX9_rowComesRound_83 : decode cX9_rowComesRound 83 = .ok (.aload_n 0, 1) := by decide +kernel
theorem dX9_rowComesRound_84 : decode cX9_rowComesRound 84 = .ok (.getfield 27, 3) := by decide +kernel
theorem dX9_rowComesRound_87 : decode cX9_rowComesRound 87 = .ok (.iconst 1, 1) := by decide +kernel
theorem dX9_rowComesRound_88 : decode cX9_rowComesRound 88 = .ok (.isub, 1) := by decide +kernel
theorem dX9_rowComesRound_89 : decode cX9_rowComesRound 89 = .ok (.laload, 1) := by decide +kernel
theorem dX9_rowComesRound_90 : decode cX9_rowComesRound 90 = .ok (.lcmp, 1) := by decide +kernel
theorem dX9_rowComesRound_91 : decode cX9_rowComesRound 91 = .ok (.ifCond .lt 7, 3) := by decide +kernel
theorem dX9_rowComesRound_94 : decode cX9_rowComesRound 94 = .ok (.iconst 1, 1) := by decide +kernel
theorem dX9_rowComesRound_95 : decode cX9_rowComesRound 95 = .ok (.goto 4, 3) := by decide +kernel
theorem dX9_rowComesRound_98 : decode cX9_rowComesRound 98 = .ok (.iconst 0, 1) := by decide +kernel
theorem dX9_rowComesRound_99 : decode cX9_rowComesRound 99 = .ok (.ireturn, 1) := by decide +kernel
end
section
theorem dX10_init_0 : decode cX10_init 0 = .ok (.aload_n 0, 1) := by decide +kernel
theorem dX10_init_1 : decode cX10_init 1 = .ok (.invokespecial 1, 3) := by decide +kernel
theorem dX10_init_4 : decode cX10_init 4 = .ok (.aload_n 0, 1) := by decide +kernel
theorem dX10_init_5 : decode cX10_init 5 = .ok (.bipush 60, 2) := by decide +kernel
theorem dX10_init_7 : decode cX10_init 7 = .ok (.newarray .int, 2) := by decide +kernel
theorem dX10_init_9 : decode cX10_init 9 = .ok (.putfield 7, 3) := by decide +kernel
theorem dX10_init_12 : decode cX10_init 12 = .ok (.aload_n 0, 1) := by decide +kernel
theorem dX10_init_13 : decode cX10_init 13 = .ok (.bipush 60, 2) := by decide +kernel
theorem dX10_init_15 : decode cX10_init 15 = .ok (.newarray .int, 2) := by decide +kernel
theorem dX10_init_17 : decode cX10_init 17 = .ok (.putfield 13, 3) := by decide +kernel
theorem dX10_init_20 : decode cX10_init 20 = .ok (.aload_n 0, 1) := by decide +kernel
theorem dX10_init_21 : decode cX10_init 21 = .ok (.bipush 60, 2) := by decide +kernel
theorem dX10_init_23 : decode cX10_init 23 = .ok (.newarray .long, 2) := by decide +kernel
theorem dX10_init_25 : decode cX10_init 25 = .ok (.putfield 16, 3) := by decide +kernel
theorem dX10_init_28 : decode cX10_init 28 = .ok (.aload_n 0, 1) := by decide +kernel
theorem dX10_init_29 : decode cX10_init 29 = .ok (.bipush 60, 2) := by decide +kernel
theorem dX10_init_31 : decode cX10_init 31 = .ok (.newarray .int, 2) := by decide +kernel
theorem dX10_init_33 : decode cX10_init 33 = .ok (.putfield 20, 3) := by decide +kernel
theorem dX10_init_36 : decode cX10_init 36 = .ok (.aload_n 0, 1) := by decide +kernel
theorem dX10_init_37 : decode cX10_init 37 = .ok (.sipush 18000, 3) := by decide +kernel
theorem dX10_init_40 : decode cX10_init 40 = .ok (.newarray .long, 2) := by decide +kernel
theorem dX10_init_42 : decode cX10_init 42 = .ok (.putfield 23, 3) := by decide +kernel
theorem dX10_init_45 : decode cX10_init 45 = .ok (.aload_n 0, 1) := by decide +kernel
theorem dX10_init_46 : decode cX10_init 46 = .ok (.sipush 300, 3) := by decide +kernel
theorem dX10_init_49 : decode cX10_init 49 = .ok (.newarray .long, 2) := by decide +kernel
theorem dX10_init_51 : decode cX10_init 51 = .ok (.putfield 26, 3) := by decide +kernel
theorem dX10_init_54 : decode cX10_init 54 = .ok (.aload_n 0, 1) := by decide +kernel
theorem dX10_init_55 : decode cX10_init 55 = .ok (.bipush 60, 2) := by decide +kernel
theorem dX10_init_57 : decode cX10_init 57 = .ok (.newarray .long, 2) := by decide +kernel
theorem dX10_init_59 : decode cX10_init 59 = .ok (.putfield 29, 3) := by decide +kernel
theorem dX10_init_62 : decode cX10_init 62 = .ok (.aload_n 0, 1) := by decide +kernel
theorem dX10_init_63 : decode cX10_init 63 = .ok (.iconst (-1), 1) := by decide +kernel
theorem dX10_init_64 : decode cX10_init 64 = .ok (.putfield 32, 3) := by decide +kernel
theorem dX10_init_67 : decode cX10_init 67 = .ok (.aload_n 0, 1) := by decide +kernel
theorem dX10_init_68 : decode cX10_init 68 = .ok (.iconst 5, 1) := by decide +kernel
theorem dX10_init_69 : decode cX10_init 69 = .ok (.newarray .int, 2) := by decide +kernel
theorem dX10_init_71 : decode cX10_init 71 = .ok (.putfield 36, 3) := by decide +kernel
theorem dX10_init_74 : decode cX10_init 74 = .ok (.aload_n 0, 1) := by decide +kernel
theorem dX10_init_75 : decode cX10_init 75 = .ok (.sipush 760, 3) := by decide +kernel
theorem dX10_init_78 : decode cX10_init 78 = .ok (.newarray .long, 2) := by decide +kernel
theorem dX10_init_80 : decode cX10_init 80 = .ok (.putfield 39, 3) := by decide +kernel
theorem dX10_init_83 : decode cX10_init 83 = .ok (.return_, 1) := by decide +kernel
theorem dX10_in_0 : decode cX10_in 0 = .ok (.lload_n 0, 1) := by decide +kernel
theorem dX10_in_1 : decode cX10_in 1 = .ok (.lload_n 2, 1) := by decide +kernel
theorem dX10_in_2 : decode cX10_in 2 = .ok (.lcmp, 1) := by decide +kernel
theorem dX10_in_3 : decode cX10_in 3 = .ok (.ifCond .lt 14, 3) := by decide +kernel
theorem dX10_in_6 : decode cX10_in 6 = .ok (.lload_n 0, 1) := by decide +kernel
theorem dX10_in_7 : decode cX10_in 7 = .ok (.lload 4, 2) := by decide +kernel
theorem dX10_in_9 : decode cX10_in 9 = .ok (.lcmp, 1) := by decide +kernel
theorem dX10_in_10 : decode cX10_in 10 = .ok (.ifCond .gt 7, 3) := by decide +kernel
theorem dX10_in_13 : decode cX10_in 13 = .ok (.iconst 1, 1) := by decide +kernel
theorem dX10_in_14 : decode cX10_in 14 = .ok (.goto 4, 3) := by decide +kernel
theorem dX10_in_17 : decode cX10_in 17 = .ok (.iconst 0, 1) := by decide +kernel
theorem dX10_in_18 : decode cX10_in 18 = .ok (.ireturn, 1) := by decide +kernel
theorem dX10_refuse_0 : decode cX10_refuse 0 = .ok (.aload_n 0, 1) := by decide +kernel
theorem dX10_refuse_1 : decode cX10_refuse 1 = .ok (.iload_n 1, 1) := by decide +kernel
theorem dX10_refuse_2 : decode cX10_refuse 2 = .ok (.putfield 42, 3) := by decide +kernel
theorem dX10_refuse_5 : decode cX10_refuse 5 = .ok (.iload_n 1, 1) := by decide +kernel
theorem dX10_refuse_6 : decode cX10_refuse 6 = .ok (.ireturn, 1) := by decide +kernel
theorem dX10_fine_0 : decode cX10_fine 0 = .ok (.aload_n 0, 1) := by decide +kernel
theorem dX10_fine_1 : decode cX10_fine 1 = .ok (.iconst 0, 1) := by decide +kernel
theorem dX10_fine_2 : decode cX10_fine 2 = .ok (.putfield 42, 3) := by decide +kernel
theorem dX10_fine_5 : decode cX10_fine 5 = .ok (.iload_n 1, 1) := by decide +kernel
theorem dX10_fine_6 : decode cX10_fine 6 = .ok (.ireturn, 1) := by decide +kernel
theorem dX10_fineLong_0 : decode cX10_fineLong 0 = .ok (.aload_n 0, 1) := by decide +kernel
theorem dX10_fineLong_1 : decode cX10_fineLong 1 = .ok (.iconst 0, 1) := by decide +kernel
theorem dX10_fineLong_2 : decode cX10_fineLong 2 = .ok (.putfield 42, 3) := by decide +kernel
theorem dX10_fineLong_5 : decode cX10_fineLong 5 = .ok (.lload_n 1, 1) := by decide +kernel
theorem dX10_fineLong_6 : decode cX10_fineLong 6 = .ok (.lreturn, 1) := by decide +kernel
theorem dX10_none_0 : decode cX10_none 0 = .ok (.aload_n 0, 1) := by decide +kernel
theorem dX10_none_1 : decode cX10_none 1 = .ok (.iload_n 1, 1) := by decide +kernel
theorem dX10_none_2 : decode cX10_none 2 = .ok (.putfield 42, 3) := by decide +kernel
theorem dX10_none_5 : decode cX10_none 5 = .ok (.ldc2_w 45, 3) := by decide +kernel
theorem dX10_none_8 : decode cX10_none 8 = .ok (.lreturn, 1) := by decide +kernel
theorem dX10_isCurve_0 : decode cX10_isCurve 0 = .ok (.iload_n 1, 1) := by decide +kernel
theorem dX10_isCurve_1 : decode cX10_isCurve 1 = .ok (.i2l, 1) := by decide +kernel
theorem dX10_isCurve_2 : decode cX10_isCurve 2 = .ok (.lconst 0, 1) := by decide +kernel
theorem dX10_isCurve_3 : decode cX10_isCurve 3 = .ok (.aload_n 0, 1) := by decide +kernel
theorem dX10_isCurve_4 : decode cX10_isCurve 4 = .ok (.getfield 47, 3) := by decide +kernel
theorem dX10_isCurve_7 : decode cX10_isCurve 7 = .ok (.iconst 1, 1) := by decide +kernel
theorem dX10_isCurve_8 : decode cX10_isCurve 8 = .ok (.isub, 1) := by decide +kernel
theorem dX10_isCurve_9 : decode cX10_isCurve 9 = .ok (.i2l, 1) := by decide +kernel
theorem dX10_isCurve_10 : decode cX10_isCurve 10 = .ok (.invokestatic 50, 3) := by decide +kernel
theorem dX10_isCurve_13 : decode cX10_isCurve 13 = .ok (.ireturn, 1) := by decide +kernel
theorem dX10_value_0 : decode cX10_value 0 = .ok (.lload_n 2, 1) := by decide +kernel
theorem dX10_value_1 : decode cX10_value 1 = .ok (.aload_n 0, 1) := by decide +kernel
theorem dX10_value_2 : decode cX10_value 2 = .ok (.getfield 7, 3) := by decide +kernel
theorem dX10_value_5 : decode cX10_value 5 = .ok (.iload_n 1, 1) := by decide +kernel
theorem dX10_value_6 : decode cX10_value 6 = .ok (.iaload, 1) := by decide +kernel
theorem dX10_value_7 : decode cX10_value 7 = .ok (.i2l, 1) := by decide +kernel
theorem dX10_value_8 : decode cX10_value 8 = .ok (.lsub, 1) := by decide +kernel
theorem dX10_value_9 : decode cX10_value 9 = .ok (.lstore 4, 2) := by decide +kernel
theorem dX10_value_11 : decode cX10_value 11 = .ok (.lload 4, 2) := by decide +kernel
theorem dX10_value_13 : decode cX10_value 13 = .ok (.aload_n 0, 1) := by decide +kernel
theorem dX10_value_14 : decode cX10_value 14 = .ok (.getfield 13, 3) := by decide +kernel
theorem dX10_value_17 : decode cX10_value 17 = .ok (.iload_n 1, 1) := by decide +kernel
theorem dX10_value_18 : decode cX10_value 18 = .ok (.iaload, 1) := by decide +kernel
theorem dX10_value_19 : decode cX10_value 19 = .ok (.i2l, 1) := by decide +kernel
theorem dX10_value_20 : decode cX10_value 20 = .ok (.lcmp, 1) := by decide +kernel
theorem dX10_value_21 : decode cX10_value 21 = .ok (.ifCond .ge 17, 3) := by decide +kernel
theorem dX10_value_24 : decode cX10_value 24 = .ok (.aload_n 0, 1) := by decide +kernel
theorem dX10_value_25 : decode cX10_value 25 = .ok (.getfield 23, 3) := by decide +kernel
theorem dX10_value_28 : decode cX10_value 28 = .ok (.sipush 300, 3) := by decide +kernel
theorem dX10_value_31 : decode cX10_value 31 = .ok (.iload_n 1, 1) := by decide +kernel
theorem dX10_value_32 : decode cX10_value 32 = .ok (.imul, 1) := by decide +kernel
theorem dX10_value_33 : decode cX10_value 33 = .ok (.lload_n 2, 1) := by decide +kernel
theorem dX10_value_34 : decode cX10_value 34 = .ok (.l2i, 1) := by decide +kernel
theorem dX10_value_35 : decode cX10_value 35 = .ok (.iadd, 1) := by decide +kernel
theorem dX10_value_36 : decode cX10_value 36 = .ok (.laload, 1) := by decide +kernel
theorem dX10_value_37 : decode cX10_value 37 = .ok (.lreturn, 1) := by decide +kernel
theorem dX10_value_38 : decode cX10_value 38 = .ok (.aload_n 0, 1) := by decide +kernel
theorem dX10_value_39 : decode cX10_value 39 = .ok (.getfield 23, 3) := by decide +kernel
theorem dX10_value_42 : decode cX10_value 42 = .ok (.sipush 300, 3) := by decide +kernel
theorem dX10_value_45 : decode cX10_value 45 = .ok (.iload_n 1, 1) := by decide +kernel
theorem dX10_value_46 : decode cX10_value 46 = .ok (.imul, 1) := by decide +kernel
theorem dX10_value_47 : decode cX10_value 47 = .ok (.aload_n 0, 1) := by decide +kernel
theorem dX10_value_48 : decode cX10_value 48 = .ok (.getfield 7, 3) := by decide +kernel
theorem dX10_value_51 : decode cX10_value 51 = .ok (.iload_n 1, 1) := by decide +kernel
theorem dX10_value_52 : decode cX10_value 52 = .ok (.iaload, 1) := by decide +kernel
theorem dX10_value_53 : decode cX10_value 53 = .ok (.iadd, 1) := by decide +kernel
theorem dX10_value_54 : decode cX10_value 54 = .ok (.lload 4, 2) := by decide +kernel
theorem dX10_value_56 : decode cX10_value 56 = .ok (.aload_n 0, 1) := by decide +kernel
theorem dX10_value_57 : decode cX10_value 57 = .ok (.getfield 13, 3) := by decide +kernel
theorem dX10_value_60 : decode cX10_value 60 = .ok (.iload_n 1, 1) := by decide +kernel
theorem dX10_value_61 : decode cX10_value 61 = .ok (.iaload, 1) := by decide +kernel
theorem dX10_value_62 : decode cX10_value 62 = .ok (.i2l, 1) := by decide +kernel
theorem dX10_value_63 : decode cX10_value 63 = .ok (.lrem, 1) := by decide +kernel
theorem dX10_value_64 : decode cX10_value 64 = .ok (.l2i, 1) := by decide +kernel
theorem dX10_value_65 : decode cX10_value 65 = .ok (.iadd, 1) := by decide +kernel
theorem dX10_value_66 : decode cX10_value 66 = .ok (.laload, 1) := by decide +kernel
theorem dX10_value_67 : decode cX10_value 67 = .ok (.lload 4, 2) := by decide +kernel
theorem dX10_value_69 : decode cX10_value 69 = .ok (.aload_n 0, 1) := by decide +kernel
theorem dX10_value_70 : decode cX10_value 70 = .ok (.getfield 13, 3) := by decide +kernel
theorem dX10_value_73 : decode cX10_value 73 = .ok (.iload_n 1, 1) := by decide +kernel
theorem dX10_value_74 : decode cX10_value 74 = .ok (.iaload, 1) := by decide +kernel
theorem dX10_value_75 : decode cX10_value 75 = .ok (.i2l, 1) := by decide +kernel
theorem dX10_value_76 : decode cX10_value 76 = .ok (.ldiv, 1) := by decide +kernel
theorem dX10_value_77 : decode cX10_value 77 = .ok (.aload_n 0, 1) := by decide +kernel
theorem dX10_value_78 : decode cX10_value 78 = .ok (.getfield 16, 3) := by decide +kernel
theorem dX10_value_81 : decode cX10_value 81 = .ok (.iload_n 1, 1) := by decide +kernel
theorem dX10_value_82 : decode cX10_value 82 = .ok (.laload, 1) := by decide +kernel
theorem dX10_value_83 : decode cX10_value 83 = .ok (.lmul, 1) := by decide +kernel
theorem dX10_value_84 : decode cX10_value 84 = .ok (.ladd, 1) := by decide +kernel
theorem dX10_value_85 : decode cX10_value 85 = .ok (.lreturn, 1) := by decide +kernel
theorem dX10_comesRound_0 : decode cX10_comesRound 0 = .ok (.iconst 1, 1) := by decide +kernel
theorem dX10_comesRound_1 : decode cX10_comesRound 1 = .ok (.istore 5, 2) := by decide +kernel
theorem dX10_comesRound_3 : decode cX10_comesRound 3 = .ok (.iload 4, 2) := by decide +kernel
theorem dX10_comesRound_5 : decode cX10_comesRound 5 = .ok (.istore 6, 2) := by decide +kernel
theorem dX10_comesRound_7 : decode cX10_comesRound 7 = .ok (.iload 6, 2) := by decide +kernel
theorem dX10_comesRound_9 : decode cX10_comesRound 9 = .ok (.sipush 640, 3) := by decide +kernel
theorem dX10_comesRound_12 : decode cX10_comesRound 12 = .ok (.if_icmp .ge 43, 3) := by decide +kernel
theorem dX10_comesRound_15 : decode cX10_comesRound 15 = .ok (.iload 5, 2) := by decide +kernel
theorem dX10_comesRound_17 : decode cX10_comesRound 17 = .ok (.ifCond .eq 38, 3) := by decide +kernel
theorem dX10_comesRound_20 : decode cX10_comesRound 20 = .ok (.aload_n 0, 1) := by decide +kernel
theorem dX10_comesRound_21 : decode cX10_comesRound 21 = .ok (.getfield 39, 3) := by decide +kernel
theorem dX10_comesRound_24 : decode cX10_comesRound 24 = .ok (.iload 6, 2) := by decide +kernel
theorem dX10_comesRound_26 : decode cX10_comesRound 26 = .ok (.iload_n 1, 1) := by decide +kernel
theorem dX10_comesRound_27 : decode cX10_comesRound 27 = .ok (.iadd, 1) := by decide +kernel
theorem dX10_comesRound_28 : decode cX10_comesRound 28 = .ok (.laload, 1) := by decide +kernel
theorem dX10_comesRound_29 : decode cX10_comesRound 29 = .ok (.aload_n 0, 1) := by decide +kernel
theorem dX10_comesRound_30 : decode cX10_comesRound 30 = .ok (.getfield 39, 3) := by decide +kernel
theorem dX10_comesRound_33 : decode cX10_comesRound 33 = .ok (.iload 6, 2) := by decide +kernel
theorem dX10_comesRound_35 : decode cX10_comesRound 35 = .ok (.laload, 1) := by decide +kernel
theorem dX10_comesRound_36 : decode cX10_comesRound 36 = .ok (.lload_n 2, 1) := by decide +kernel
theorem dX10_comesRound_37 : decode cX10_comesRound 37 = .ok (.ladd, 1) := by decide +kernel
theorem dX10_comesRound_38 : decode cX10_comesRound 38 = .ok (.lcmp, 1) := by decide +kernel
theorem dX10_comesRound_39 : decode cX10_comesRound 39 = .ok (.ifCond .ne 7, 3) := by decide +kernel
theorem dX10_comesRound_42 : decode cX10_comesRound 42 = .ok (.iconst 1, 1) := by decide +kernel
theorem dX10_comesRound_43 : decode cX10_comesRound 43 = .ok (.goto 4, 3) := by decide +kernel
theorem dX10_comesRound_46 : decode cX10_comesRound 46 = .ok (.iconst 0, 1) := by decide +kernel
theorem dX10_comesRound_47 : decode cX10_comesRound 47 = .ok (.istore 5, 2) := by decide +kernel
theorem dX10_comesRound_49 : decode cX10_comesRound 49 = .ok (.iinc 6 1, 3) := by decide +kernel
theorem dX10_comesRound_52 : decode cX10_comesRound 52 = .ok (.goto (-45), 3) := by decide +kernel
theorem dX10_comesRound_55 : decode cX10_comesRound 55 = .ok (.iload 5, 2) := by decide +kernel
theorem dX10_comesRound_57 : decode cX10_comesRound 57 = .ok (.ireturn, 1) := by decide +kernel
theorem dX10_kindOf_0 : decode cX10_kindOf 0 = .ok (.aload_n 0, 1) := by decide +kernel
theorem dX10_kindOf_1 : decode cX10_kindOf 1 = .ok (.getfield 23, 3) := by decide +kernel
theorem dX10_kindOf_4 : decode cX10_kindOf 4 = .ok (.sipush 300, 3) := by decide +kernel
theorem dX10_kindOf_7 : decode cX10_kindOf 7 = .ok (.iload_n 1, 1) := by decide +kernel
theorem dX10_kindOf_8 : decode cX10_kindOf 8 = .ok (.imul, 1) := by decide +kernel
theorem dX10_kindOf_9 : decode cX10_kindOf 9 = .ok (.laload, 1) := by decide +kernel
theorem dX10_kindOf_10 : decode cX10_kindOf 10 = .ok (.lstore_n 2, 1) := by decide +kernel
theorem dX10_kindOf_11 : decode cX10_kindOf 11 = .ok (.aload_n 0, 1) := by decide +kernel
theorem dX10_kindOf_12 : decode cX10_kindOf 12 = .ok (.getfield 7, 3) := by decide +kernel
theorem dX10_kindOf_15 : decode cX10_kindOf 15 = .ok (.iload_n 1, 1) := by decide +kernel
theorem dX10_kindOf_16 : decode cX10_kindOf 16 = .ok (.iaload, 1) := by decide +kernel
theorem dX10_kindOf_17 : decode cX10_kindOf 17 = .ok (.istore 4, 2) := by decide +kernel
theorem dX10_kindOf_19 : decode cX10_kindOf 19 = .ok (.aload_n 0, 1) := by decide +kernel
theorem dX10_kindOf_20 : decode cX10_kindOf 20 = .ok (.getfield 13, 3) := by decide +kernel
theorem dX10_kindOf_23 : decode cX10_kindOf 23 = .ok (.iload_n 1, 1) := by decide +kernel
theorem dX10_kindOf_24 : decode cX10_kindOf 24 = .ok (.iaload, 1) := by decide +kernel
theorem dX10_kindOf_25 : decode cX10_kindOf 25 = .ok (.istore 5, 2) := by decide +kernel
theorem dX10_kindOf_27 : decode cX10_kindOf 27 = .ok (.aload_n 0, 1) := by decide +kernel
theorem dX10_kindOf_28 : decode cX10_kindOf 28 = .ok (.getfield 16, 3) := by decide +kernel
theorem dX10_kindOf_31 : decode cX10_kindOf 31 = .ok (.iload_n 1, 1) := by decide +kernel
theorem dX10_kindOf_32 : decode cX10_kindOf 32 = .ok (.laload, 1) := by decide +kernel
theorem dX10_kindOf_33 : decode cX10_kindOf 33 = .ok (.lstore 6, 2) := by decide +kernel
theorem dX10_kindOf_35 : decode cX10_kindOf 35 = .ok (.iload 5, 2) := by decide +kernel
theorem dX10_kindOf_37 : decode cX10_kindOf 37 = .ok (.iconst 1, 1) := by decide +kernel
theorem dX10_kindOf_38 : decode cX10_kindOf 38 = .ok (.if_icmp .ne 35, 3) := by decide +kernel
theorem dX10_kindOf_41 : decode cX10_kindOf 41 = .ok (.iload 4, 2) := by decide +kernel
theorem dX10_kindOf_43 : decode cX10_kindOf 43 = .ok (.iconst 1, 1) := by decide +kernel
theorem dX10_kindOf_44 : decode cX10_kindOf 44 = .ok (.if_icmp .ne 29, 3) := by decide +kernel
theorem dX10_kindOf_47 : decode cX10_kindOf 47 = .ok (.lload_n 2, 1) := by decide +kernel
theorem dX10_kindOf_48 : decode cX10_kindOf 48 = .ok (.lconst 0, 1) := by decide +kernel
theorem dX10_kindOf_49 : decode cX10_kindOf 49 = .ok (.lcmp, 1) := by decide +kernel
theorem dX10_kindOf_50 : decode cX10_kindOf 50 = .ok (.ifCond .ne 23, 3) := by decide +kernel
theorem dX10_kindOf_53 : decode cX10_kindOf 53 = .ok (.aload_n 0, 1) := by decide +kernel
theorem dX10_kindOf_54 : decode cX10_kindOf 54 = .ok (.getfield 23, 3) := by decide +kernel
theorem dX10_kindOf_57 : decode cX10_kindOf 57 = .ok (.sipush 300, 3) := by decide +kernel
theorem dX10_kindOf_60 : decode cX10_kindOf 60 = .ok (.iload_n 1, 1) := by decide +kernel
theorem dX10_kindOf_61 : decode cX10_kindOf 61 = .ok (.imul, 1) := by decide +kernel
theorem dX10_kindOf_62 : decode cX10_kindOf 62 = .ok (.iconst 1, 1) := by decide +kernel
theorem dX10_kindOf_63 : decode cX10_kindOf 63 = .ok (.iadd, 1) := by decide +kernel
theorem dX10_kindOf_64 : decode cX10_kindOf 64 = .ok (.laload, 1) := by decide +kernel
theorem dX10_kindOf_65 : decode cX10_kindOf 65 = .ok (.lload 6, 2) := by decide +kernel
theorem dX10_kindOf_67 : decode cX10_kindOf 67 = .ok (.lcmp, 1) := by decide +kernel
theorem dX10_kindOf_68 : decode cX10_kindOf 68 = .ok (.ifCond .le 5, 3) := by decide +kernel
theorem dX10_kindOf_71 : decode cX10_kindOf 71 = .ok (.iconst 1, 1) := by decide +kernel
theorem dX10_kindOf_72 : decode cX10_kindOf 72 = .ok (.ireturn, 1) := by decide +kernel
theorem dX10_kindOf_73 : decode cX10_kindOf 73 = .ok (.iload 5, 2) := by decide +kernel
theorem dX10_kindOf_75 : decode cX10_kindOf 75 = .ok (.iconst 1, 1) := by decide +kernel
theorem dX10_kindOf_76 : decode cX10_kindOf 76 = .ok (.if_icmp .ne 16, 3) := by decide +kernel
theorem dX10_kindOf_79 : decode cX10_kindOf 79 = .ok (.iload 4, 2) := by decide +kernel
theorem dX10_kindOf_81 : decode cX10_kindOf 81 = .ok (.ifCond .ne 11, 3) := by decide +kernel
theorem dX10_kindOf_84 : decode cX10_kindOf 84 = .ok (.lload_n 2, 1) := by decide +kernel
theorem dX10_kindOf_85 : decode cX10_kindOf 85 = .ok (.lconst 0, 1) := by decide +kernel
theorem dX10_kindOf_86 : decode cX10_kindOf 86 = .ok (.lcmp, 1) := by decide +kernel
theorem dX10_kindOf_87 : decode cX10_kindOf 87 = .ok (.ifCond .ne 5, 3) := by decide +kernel
theorem dX10_kindOf_90 : decode cX10_kindOf 90 = .ok (.iconst 2, 1) := by decide +kernel
theorem dX10_kindOf_91 : decode cX10_kindOf 91 = .ok (.ireturn, 1) := by decide +kernel
theorem dX10_kindOf_92 : decode cX10_kindOf 92 = .ok (.iload 5, 2) := by decide +kernel
theorem dX10_kindOf_94 : decode cX10_kindOf 94 = .ok (.iconst 1, 1) := by decide +kernel
theorem dX10_kindOf_95 : decode cX10_kindOf 95 = .ok (.if_icmp .ne 35, 3) := by decide +kernel
theorem dX10_kindOf_98 : decode cX10_kindOf 98 = .ok (.iload 4, 2) := by decide +kernel
theorem dX10_kindOf_100 : decode cX10_kindOf 100 = .ok (.ifCond .le 30, 3) := by decide +kernel
theorem dX10_kindOf_103 : decode cX10_kindOf 103 = .ok (.lload 6, 2) := by decide +kernel
theorem dX10_kindOf_105 : decode cX10_kindOf 105 = .ok (.lconst 0, 1) := by decide +kernel
theorem dX10_kindOf_106 : decode cX10_kindOf 106 = .ok (.lcmp, 1) := by decide +kernel
theorem dX10_kindOf_107 : decode cX10_kindOf 107 = .ok (.ifCond .le 23, 3) := by decide +kernel
theorem dX10_kindOf_110 : decode cX10_kindOf 110 = .ok (.aload_n 0, 1) := by decide +kernel
theorem dX10_kindOf_111 : decode cX10_kindOf 111 = .ok (.getfield 23, 3) := by decide +kernel
theorem dX10_kindOf_114 : decode cX10_kindOf 114 = .ok (.sipush 300, 3) := by decide +kernel
theorem dX10_kindOf_117 : decode cX10_kindOf 117 = .ok (.iload_n 1, 1) := by decide +kernel
theorem dX10_kindOf_118 : decode cX10_kindOf 118 = .ok (.imul, 1) := by decide +kernel
theorem dX10_kindOf_119 : decode cX10_kindOf 119 = .ok (.iload 4, 2) := by decide +kernel
theorem dX10_kindOf_121 : decode cX10_kindOf 121 = .ok (.iadd, 1) := by decide +kernel
theorem dX10_kindOf_122 : decode cX10_kindOf 122 = .ok (.laload, 1) := by decide +kernel
theorem dX10_kindOf_123 : decode cX10_kindOf 123 = .ok (.lconst 0, 1) := by decide +kernel
theorem dX10_kindOf_124 : decode cX10_kindOf 124 = .ok (.lcmp, 1) := by decide +kernel
theorem dX10_kindOf_125 : decode cX10_kindOf 125 = .ok (.ifCond .ne 5, 3) := by decide +kernel
theorem dX10_kindOf_128 : decode cX10_kindOf 128 = .ok (.iconst 3, 1) := by decide +kernel
theorem dX10_kindOf_129 : decode cX10_kindOf 129 = .ok (.ireturn, 1) := by decide +kernel
theorem dX10_kindOf_130 : decode cX10_kindOf 130 = .ok (.iload 5, 2) := by decide +kernel
theorem dX10_kindOf_132 : decode cX10_kindOf 132 = .ok (.iconst 1, 1) := by decide +kernel
theorem dX10_kindOf_133 : decode cX10_kindOf 133 = .ok (.if_icmp .le 39, 3) := by decide +kernel
theorem dX10_kindOf_136 : decode cX10_kindOf 136 = .ok (.iload 4, 2) := by decide +kernel
theorem dX10_kindOf_138 : decode cX10_kindOf 138 = .ok (.ifCond .ne 34, 3) := by decide +kernel
theorem dX10_kindOf_141 : decode cX10_kindOf 141 = .ok (.lload 6, 2) := by decide +kernel
theorem dX10_kindOf_143 : decode cX10_kindOf 143 = .ok (.lconst 0, 1) := by decide +kernel
theorem dX10_kindOf_144 : decode cX10_kindOf 144 = .ok (.lcmp, 1) := by decide +kernel
theorem dX10_kindOf_145 : decode cX10_kindOf 145 = .ok (.ifCond .le 27, 3) := by decide +kernel
theorem dX10_kindOf_148 : decode cX10_kindOf 148 = .ok (.aload_n 0, 1) := by decide +kernel
theorem dX10_kindOf_149 : decode cX10_kindOf 149 = .ok (.getfield 23, 3) := by decide +kernel
theorem dX10_kindOf_152 : decode cX10_kindOf 152 = .ok (.sipush 300, 3) := by decide +kernel
theorem dX10_kindOf_155 : decode cX10_kindOf 155 = .ok (.iload_n 1, 1) := by decide +kernel
theorem dX10_kindOf_156 : decode cX10_kindOf 156 = .ok (.imul, 1) := by decide +kernel
theorem dX10_kindOf_157 : decode cX10_kindOf 157 = .ok (.iload 5, 2) := by decide +kernel
theorem dX10_kindOf_159 : decode cX10_kindOf 159 = .ok (.iadd, 1) := by decide +kernel
theorem dX10_kindOf_160 : decode cX10_kindOf 160 = .ok (.iconst 1, 1) := by decide +kernel
theorem dX10_kindOf_161 : decode cX10_kindOf 161 = .ok (.isub, 1) := by decide +kernel
theorem dX10_kindOf_162 : decode cX10_kindOf 162 = .ok (.laload, 1) := by decide +kernel
theorem dX10_kindOf_163 : decode cX10_kindOf 163 = .ok (.lconst 0, 1) := by decide +kernel
theorem dX10_kindOf_164 : decode cX10_kindOf 164 = .ok (.lcmp, 1) := by decide +kernel
theorem dX10_kindOf_165 : decode cX10_kindOf 165 = .ok (.ifCond .ne 7, 3) := by decide +kernel
theorem dX10_kindOf_168 : decode cX10_kindOf 168 = .ok (.iconst 4, 1) := by decide +kernel
theorem dX10_kindOf_169 : decode cX10_kindOf 169 = .ok (.goto 4, 3) := by decide +kernel
theorem dX10_kindOf_172 : decode cX10_kindOf 172 = .ok (.iconst 0, 1) := by decide +kernel
theorem dX10_kindOf_173 : decode cX10_kindOf 173 = .ok (.ireturn, 1) := by decide +kernel
theorem dX10_settle_0 : decode cX10_settle 0 = .ok (.aload_n 0, 1) := by decide +kernel
theorem dX10_settle_1 : decode cX10_settle 1 = .ok (.iload_n 1, 1) := by decide +kernel
theorem dX10_settle_2 : decode cX10_settle 2 = .ok (.lload_n 2, 1) := by decide +kernel
theorem dX10_settle_3 : decode cX10_settle 3 = .ok (.sipush 200, 3) := by decide +kernel
theorem dX10_settle_6 : decode cX10_settle 6 = .ok (.invokevirtual 54, 3) := by decide +kernel
theorem dX10_settle_9 : decode cX10_settle 9 = .ok (.ifCond .ne 10, 3) := by decide +kernel
theorem dX10_settle_12 : decode cX10_settle 12 = .ok (.aload_n 0, 1) := by decide +kernel
theorem dX10_settle_13 : decode cX10_settle 13 = .ok (.bipush (-4), 2) := by decide +kernel
theorem dX10_settle_15 : decode cX10_settle 15 = .ok (.invokevirtual 58, 3) := by decide +kernel
theorem dX10_settle_18 : decode cX10_settle 18 = .ok (.ireturn, 1) := by decide +kernel
theorem dX10_settle_19 : decode cX10_settle 19 = .ok (.iconst 1, 1) := by decide +kernel
theorem dX10_settle_20 : decode cX10_settle 20 = .ok (.istore 4, 2) := by decide +kernel
theorem dX10_settle_22 : decode cX10_settle 22 = .ok (.iload_n 1, 1) := by decide +kernel
theorem dX10_settle_23 : decode cX10_settle 23 = .ok (.iload 4, 2) := by decide +kernel
theorem dX10_settle_25 : decode cX10_settle 25 = .ok (.irem, 1) := by decide +kernel
theorem dX10_settle_26 : decode cX10_settle 26 = .ok (.ifCond .ne 36, 3) := by decide +kernel
theorem dX10_settle_29 : decode cX10_settle 29 = .ok (.lload_n 2, 1) := by decide +kernel
theorem dX10_settle_30 : decode cX10_settle 30 = .ok (.iload 4, 2) := by decide +kernel
theorem dX10_settle_32 : decode cX10_settle 32 = .ok (.i2l, 1) := by decide +kernel
theorem dX10_settle_33 : decode cX10_settle 33 = .ok (.lmul, 1) := by decide +kernel
theorem dX10_settle_34 : decode cX10_settle 34 = .ok (.iload_n 1, 1) := by decide +kernel
theorem dX10_settle_35 : decode cX10_settle 35 = .ok (.i2l, 1) := by decide +kernel
theorem dX10_settle_36 : decode cX10_settle 36 = .ok (.lrem, 1) := by decide +kernel
theorem dX10_settle_37 : decode cX10_settle 37 = .ok (.lconst 0, 1) := by decide +kernel
theorem dX10_settle_38 : decode cX10_settle 38 = .ok (.lcmp, 1) := by decide +kernel
theorem dX10_settle_39 : decode cX10_settle 39 = .ok (.ifCond .ne 23, 3) := by decide +kernel
theorem dX10_settle_42 : decode cX10_settle 42 = .ok (.aload_n 0, 1) := by decide +kernel
theorem dX10_settle_43 : decode cX10_settle 43 = .ok (.iload 4, 2) := by decide +kernel
theorem dX10_settle_45 : decode cX10_settle 45 = .ok (.lload_n 2, 1) := by decide +kernel
theorem dX10_settle_46 : decode cX10_settle 46 = .ok (.iload 4, 2) := by decide +kernel
theorem dX10_settle_48 : decode cX10_settle 48 = .ok (.i2l, 1) := by decide +kernel
theorem dX10_settle_49 : decode cX10_settle 49 = .ok (.lmul, 1) := by decide +kernel
theorem dX10_settle_50 : decode cX10_settle 50 = .ok (.iload_n 1, 1) := by decide +kernel
theorem dX10_settle_51 : decode cX10_settle 51 = .ok (.i2l, 1) := by decide +kernel
theorem dX10_settle_52 : decode cX10_settle 52 = .ok (.ldiv, 1) := by decide +kernel
theorem dX10_settle_53 : decode cX10_settle 53 = .ok (.sipush 200, 3) := by decide +kernel
theorem dX10_settle_56 : decode cX10_settle 56 = .ok (.invokevirtual 54, 3) := by decide +kernel
theorem dX10_settle_59 : decode cX10_settle 59 = .ok (.ifCond .ne 9, 3) := by decide +kernel
theorem dX10_settle_62 : decode cX10_settle 62 = .ok (.iinc 4 1, 3) := by decide +kernel
theorem dX10_settle_65 : decode cX10_settle 65 = .ok (.goto (-43), 3) := by decide +kernel
theorem dX10_settle_68 : decode cX10_settle 68 = .ok (.lload_n 2, 1) := by decide +kernel
theorem dX10_settle_69 : decode cX10_settle 69 = .ok (.iload 4, 2) := by decide +kernel
theorem dX10_settle_71 : decode cX10_settle 71 = .ok (.i2l, 1) := by decide +kernel
theorem dX10_settle_72 : decode cX10_settle 72 = .ok (.lmul, 1) := by decide +kernel
theorem dX10_settle_73 : decode cX10_settle 73 = .ok (.iload_n 1, 1) := by decide +kernel
theorem dX10_settle_74 : decode cX10_settle 74 = .ok (.i2l, 1) := by decide +kernel
theorem dX10_settle_75 : decode cX10_settle 75 = .ok (.ldiv, 1) := by decide +kernel
theorem dX10_settle_76 : decode cX10_settle 76 = .ok (.lstore 5, 2) := by decide +kernel
theorem dX10_settle_78 : decode cX10_settle 78 = .ok (.sipush 200, 3) := by decide +kernel
theorem dX10_settle_81 : decode cX10_settle 81 = .ok (.istore 7, 2) := by decide +kernel
theorem dX10_settle_83 : decode cX10_settle 83 = .ok (.iload 7, 2) := by decide +kernel
theorem dX10_settle_85 : decode cX10_settle 85 = .ok (.ifCond .le 37, 3) := by decide +kernel
theorem dX10_settle_88 : decode cX10_settle 88 = .ok (.aload_n 0, 1) := by decide +kernel
theorem dX10_settle_89 : decode cX10_settle 89 = .ok (.getfield 39, 3) := by decide +kernel
theorem dX10_settle_92 : decode cX10_settle 92 = .ok (.iload 7, 2) := by decide +kernel
theorem dX10_settle_94 : decode cX10_settle 94 = .ok (.iconst 1, 1) := by decide +kernel
theorem dX10_settle_95 : decode cX10_settle 95 = .ok (.isub, 1) := by decide +kernel
theorem dX10_settle_96 : decode cX10_settle 96 = .ok (.iload 4, 2) := by decide +kernel
theorem dX10_settle_98 : decode cX10_settle 98 = .ok (.iadd, 1) := by decide +kernel
theorem dX10_settle_99 : decode cX10_settle 99 = .ok (.laload, 1) := by decide +kernel
theorem dX10_settle_100 : decode cX10_settle 100 = .ok (.aload_n 0, 1) := by decide +kernel
theorem dX10_settle_101 : decode cX10_settle 101 = .ok (.getfield 39, 3) := by decide +kernel
theorem dX10_settle_104 : decode cX10_settle 104 = .ok (.iload 7, 2) := by decide +kernel
theorem dX10_settle_106 : decode cX10_settle 106 = .ok (.iconst 1, 1) := by decide +kernel
theorem dX10_settle_107 : decode cX10_settle 107 = .ok (.isub, 1) := by decide +kernel
theorem dX10_settle_108 : decode cX10_settle 108 = .ok (.laload, 1) := by decide +kernel
theorem dX10_settle_109 : decode cX10_settle 109 = .ok (.lload 5, 2) := by decide +kernel
theorem dX10_settle_111 : decode cX10_settle 111 = .ok (.ladd, 1) := by decide +kernel
theorem dX10_settle_112 : decode cX10_settle 112 = .ok (.lcmp, 1) := by decide +kernel
theorem dX10_settle_113 : decode cX10_settle 113 = .ok (.ifCond .ne 9, 3) := by decide +kernel
theorem dX10_settle_116 : decode cX10_settle 116 = .ok (.iinc 7 (-1), 3) := by decide +kernel
theorem dX10_settle_119 : decode cX10_settle 119 = .ok (.goto (-36), 3) := by decide +kernel
theorem dX10_settle_122 : decode cX10_settle 122 = .ok (.iload 4, 2) := by decide +kernel
theorem dX10_settle_124 : decode cX10_settle 124 = .ok (.bipush 60, 2) := by decide +kernel
theorem dX10_settle_126 : decode cX10_settle 126 = .ok (.if_icmp .gt 16, 3) := by decide +kernel
theorem dX10_settle_129 : decode cX10_settle 129 = .ok (.lload 5, 2) := by decide +kernel
theorem dX10_settle_131 : decode cX10_settle 131 = .ok (.ldc2_w 62, 3) := by decide +kernel
theorem dX10_settle_134 : decode cX10_settle 134 = .ok (.lcmp, 1) := by decide +kernel
theorem dX10_settle_135 : decode cX10_settle 135 = .ok (.ifCond .gt 7, 3) := by decide +kernel
theorem dX10_settle_138 : decode cX10_settle 138 = .ok (.iconst 1, 1) := by decide +kernel
theorem dX10_settle_139 : decode cX10_settle 139 = .ok (.goto 4, 3) := by decide +kernel
theorem dX10_settle_142 : decode cX10_settle 142 = .ok (.iconst 0, 1) := by decide +kernel
theorem dX10_settle_143 : decode cX10_settle 143 = .ok (.istore 8, 2) := by decide +kernel
theorem dX10_settle_145 : decode cX10_settle 145 = .ok (.iconst 0, 1) := by decide +kernel
theorem dX10_settle_146 : decode cX10_settle 146 = .ok (.istore 9, 2) := by decide +kernel
theorem dX10_settle_148 : decode cX10_settle 148 = .ok (.iload 9, 2) := by decide +kernel
theorem dX10_settle_150 : decode cX10_settle 150 = .ok (.iload 7, 2) := by decide +kernel
theorem dX10_settle_152 : decode cX10_settle 152 = .ok (.iload 4, 2) := by decide +kernel
theorem dX10_settle_154 : decode cX10_settle 154 = .ok (.iadd, 1) := by decide +kernel
theorem dX10_settle_155 : decode cX10_settle 155 = .ok (.if_icmp .ge 35, 3) := by decide +kernel
theorem dX10_settle_158 : decode cX10_settle 158 = .ok (.iload 8, 2) := by decide +kernel
theorem dX10_settle_160 : decode cX10_settle 160 = .ok (.ifCond .eq 30, 3) := by decide +kernel
theorem dX10_settle_163 : decode cX10_settle 163 = .ok (.aload_n 0, 1) := by decide +kernel
theorem dX10_settle_164 : decode cX10_settle 164 = .ok (.getfield 39, 3) := by decide +kernel
theorem dX10_settle_167 : decode cX10_settle 167 = .ok (.iload 9, 2) := by decide +kernel
theorem dX10_settle_169 : decode cX10_settle 169 = .ok (.laload, 1) := by decide +kernel
theorem dX10_settle_170 : decode cX10_settle 170 = .ok (.ldc2_w 64, 3) := by decide +kernel
theorem dX10_settle_173 : decode cX10_settle 173 = .ok (.lcmp, 1) := by decide +kernel
theorem dX10_settle_174 : decode cX10_settle 174 = .ok (.ifCond .gt 7, 3) := by decide +kernel
theorem dX10_settle_177 : decode cX10_settle 177 = .ok (.iconst 1, 1) := by decide +kernel
theorem dX10_settle_178 : decode cX10_settle 178 = .ok (.goto 4, 3) := by decide +kernel
theorem dX10_settle_181 : decode cX10_settle 181 = .ok (.iconst 0, 1) := by decide +kernel
theorem dX10_settle_182 : decode cX10_settle 182 = .ok (.istore 8, 2) := by decide +kernel
theorem dX10_settle_184 : decode cX10_settle 184 = .ok (.iinc 9 1, 3) := by decide +kernel
theorem dX10_settle_187 : decode cX10_settle 187 = .ok (.goto (-39), 3) := by decide +kernel
theorem dX10_settle_190 : decode cX10_settle 190 = .ok (.iload 8, 2) := by decide +kernel
theorem dX10_settle_192 : decode cX10_settle 192 = .ok (.ifCond .ne 10, 3) := by decide +kernel
theorem dX10_settle_195 : decode cX10_settle 195 = .ok (.aload_n 0, 1) := by decide +kernel
theorem dX10_settle_196 : decode cX10_settle 196 = .ok (.bipush (-4), 2) := by decide +kernel
theorem dX10_settle_198 : decode cX10_settle 198 = .ok (.invokevirtual 58, 3) := by decide +kernel
theorem dX10_settle_201 : decode cX10_settle 201 = .ok (.ireturn, 1) := by decide +kernel
theorem dX10_settle_202 : decode cX10_settle 202 = .ok (.aload_n 0, 1) := by decide +kernel
theorem dX10_settle_203 : decode cX10_settle 203 = .ok (.getfield 47, 3) := by decide +kernel
theorem dX10_settle_206 : decode cX10_settle 206 = .ok (.istore 9, 2) := by decide +kernel
theorem dX10_settle_208 : decode cX10_settle 208 = .ok (.aload_n 0, 1) := by decide +kernel
theorem dX10_settle_209 : decode cX10_settle 209 = .ok (.getfield 7, 3) := by decide +kernel
theorem dX10_settle_212 : decode cX10_settle 212 = .ok (.iload 9, 2) := by decide +kernel
theorem dX10_settle_214 : decode cX10_settle 214 = .ok (.iload 7, 2) := by decide +kernel
theorem dX10_settle_216 : decode cX10_settle 216 = .ok (.iastore, 1) := by decide +kernel
theorem dX10_settle_217 : decode cX10_settle 217 = .ok (.aload_n 0, 1) := by decide +kernel
theorem dX10_settle_218 : decode cX10_settle 218 = .ok (.getfield 13, 3) := by decide +kernel
theorem dX10_settle_221 : decode cX10_settle 221 = .ok (.iload 9, 2) := by decide +kernel
theorem dX10_settle_223 : decode cX10_settle 223 = .ok (.iload 4, 2) := by decide +kernel
theorem dX10_settle_225 : decode cX10_settle 225 = .ok (.iastore, 1) := by decide +kernel
theorem dX10_settle_226 : decode cX10_settle 226 = .ok (.aload_n 0, 1) := by decide +kernel
theorem dX10_settle_227 : decode cX10_settle 227 = .ok (.getfield 16, 3) := by decide +kernel
theorem dX10_settle_230 : decode cX10_settle 230 = .ok (.iload 9, 2) := by decide +kernel
theorem dX10_settle_232 : decode cX10_settle 232 = .ok (.lload 5, 2) := by decide +kernel
theorem dX10_settle_234 : decode cX10_settle 234 = .ok (.lastore, 1) := by decide +kernel
theorem dX10_settle_235 : decode cX10_settle 235 = .ok (.iconst 0, 1) := by decide +kernel
theorem dX10_settle_236 : decode cX10_settle 236 = .ok (.istore 10, 2) := by decide +kernel
theorem dX10_settle_238 : decode cX10_settle 238 = .ok (.iload 10, 2) := by decide +kernel
theorem dX10_settle_240 : decode cX10_settle 240 = .ok (.iload 7, 2) := by decide +kernel
theorem dX10_settle_242 : decode cX10_settle 242 = .ok (.iload 4, 2) := by decide +kernel
theorem dX10_settle_244 : decode cX10_settle 244 = .ok (.iadd, 1) := by decide +kernel
theorem dX10_settle_245 : decode cX10_settle 245 = .ok (.if_icmp .ge 30, 3) := by decide +kernel
theorem dX10_settle_248 : decode cX10_settle 248 = .ok (.aload_n 0, 1) := by decide +kernel
theorem dX10_settle_249 : decode cX10_settle 249 = .ok (.getfield 23, 3) := by decide +kernel
theorem dX10_settle_252 : decode cX10_settle 252 = .ok (.sipush 300, 3) := by decide +kernel
theorem dX10_settle_255 : decode cX10_settle 255 = .ok (.iload 9, 2) := by decide +kernel
theorem dX10_settle_257 : decode cX10_settle 257 = .ok (.imul, 1) := by decide +kernel
theorem dX10_settle_258 : decode cX10_settle 258 = .ok (.iload 10, 2) := by decide +kernel
theorem dX10_settle_260 : decode cX10_settle 260 = .ok (.iadd, 1) := by decide +kernel
theorem dX10_settle_261 : decode cX10_settle 261 = .ok (.aload_n 0, 1) := by decide +kernel
theorem dX10_settle_262 : decode cX10_settle 262 = .ok (.getfield 39, 3) := by decide +kernel
theorem dX10_settle_265 : decode cX10_settle 265 = .ok (.iload 10, 2) := by decide +kernel
theorem dX10_settle_267 : decode cX10_settle 267 = .ok (.laload, 1) := by decide +kernel
theorem dX10_settle_268 : decode cX10_settle 268 = .ok (.lastore, 1) := by decide +kernel
theorem dX10_settle_269 : decode cX10_settle 269 = .ok (.iinc 10 1, 3) := by decide +kernel
theorem dX10_settle_272 : decode cX10_settle 272 = .ok (.goto (-34), 3) := by decide +kernel
theorem dX10_settle_275 : decode cX10_settle 275 = .ok (.aload_n 0, 1) := by decide +kernel
theorem dX10_settle_276 : decode cX10_settle 276 = .ok (.getfield 20, 3) := by decide +kernel
theorem dX10_settle_279 : decode cX10_settle 279 = .ok (.iload 9, 2) := by decide +kernel
theorem dX10_settle_281 : decode cX10_settle 281 = .ok (.aload_n 0, 1) := by decide +kernel
theorem dX10_settle_282 : decode cX10_settle 282 = .ok (.iload 9, 2) := by decide +kernel
theorem dX10_settle_284 : decode cX10_settle 284 = .ok (.invokevirtual 66, 3) := by decide +kernel
theorem dX10_settle_287 : decode cX10_settle 287 = .ok (.iastore, 1) := by decide +kernel
theorem dX10_settle_288 : decode cX10_settle 288 = .ok (.aload_n 0, 1) := by decide +kernel
theorem dX10_settle_289 : decode cX10_settle 289 = .ok (.dup, 1) := by decide +kernel
theorem dX10_settle_290 : decode cX10_settle 290 = .ok (.getfield 47, 3) := by decide +kernel
theorem dX10_settle_293 : decode cX10_settle 293 = .ok (.iconst 1, 1) := by decide +kernel
theorem dX10_settle_294 : decode cX10_settle 294 = .ok (.iadd, 1) := by decide +kernel
theorem dX10_settle_295 : decode cX10_settle 295 = .ok (.putfield 47, 3) := by decide +kernel
theorem dX10_settle_298 : decode cX10_settle 298 = .ok (.aload_n 0, 1) := by decide +kernel
theorem dX10_settle_299 : decode cX10_settle 299 = .ok (.iconst 1, 1) := by decide +kernel
theorem dX10_settle_300 : decode cX10_settle 300 = .ok (.putfield 69, 3) := by decide +kernel
theorem dX10_settle_303 : decode cX10_settle 303 = .ok (.aload_n 0, 1) := by decide +kernel
theorem dX10_settle_304 : decode cX10_settle 304 = .ok (.iload 9, 2) := by decide +kernel
theorem dX10_settle_306 : decode cX10_settle 306 = .ok (.invokevirtual 73, 3) := by decide +kernel
theorem dX10_settle_309 : decode cX10_settle 309 = .ok (.ireturn, 1) := by decide +kernel
theorem dX10_put_0 : decode cX10_put 0 = .ok (.lload_n 1, 1) := by decide +kernel
theorem dX10_put_1 : decode cX10_put 1 = .ok (.lconst 0, 1) := by decide +kernel
theorem dX10_put_2 : decode cX10_put 2 = .ok (.ldc2_w 64, 3) := by decide +kernel
theorem dX10_put_5 : decode cX10_put 5 = .ok (.invokestatic 50, 3) := by decide +kernel
theorem dX10_put_8 : decode cX10_put 8 = .ok (.ifCond .ne 9, 3) := by decide +kernel
theorem dX10_put_11 : decode cX10_put 11 = .ok (.aload_n 0, 1) := by decide +kernel
theorem dX10_put_12 : decode cX10_put 12 = .ok (.iconst (-1), 1) := by decide +kernel
theorem dX10_put_13 : decode cX10_put 13 = .ok (.invokevirtual 58, 3) := by decide +kernel
theorem dX10_put_16 : decode cX10_put 16 = .ok (.ireturn, 1) := by decide +kernel
theorem dX10_put_17 : decode cX10_put 17 = .ok (.aload_n 0, 1) := by decide +kernel
theorem dX10_put_18 : decode cX10_put 18 = .ok (.getfield 76, 3) := by decide +kernel
theorem dX10_put_21 : decode cX10_put 21 = .ok (.sipush 300, 3) := by decide +kernel
theorem dX10_put_24 : decode cX10_put 24 = .ok (.if_icmp .ne 10, 3) := by decide +kernel
theorem dX10_put_27 : decode cX10_put 27 = .ok (.aload_n 0, 1) := by decide +kernel
theorem dX10_put_28 : decode cX10_put 28 = .ok (.bipush (-3), 2) := by decide +kernel
theorem dX10_put_30 : decode cX10_put 30 = .ok (.invokevirtual 58, 3) := by decide +kernel
theorem dX10_put_33 : decode cX10_put 33 = .ok (.ireturn, 1) := by decide +kernel
theorem dX10_put_34 : decode cX10_put 34 = .ok (.aload_n 0, 1) := by decide +kernel
theorem dX10_put_35 : decode cX10_put 35 = .ok (.getfield 26, 3) := by decide +kernel
theorem dX10_put_38 : decode cX10_put 38 = .ok (.aload_n 0, 1) := by decide +kernel
theorem dX10_put_39 : decode cX10_put 39 = .ok (.getfield 76, 3) := by decide +kernel
theorem dX10_put_42 : decode cX10_put 42 = .ok (.lload_n 1, 1) := by decide +kernel
theorem dX10_put_43 : decode cX10_put 43 = .ok (.lastore, 1) := by decide +kernel
theorem dX10_put_44 : decode cX10_put 44 = .ok (.aload_n 0, 1) := by decide +kernel
theorem dX10_put_45 : decode cX10_put 45 = .ok (.dup, 1) := by decide +kernel
theorem dX10_put_46 : decode cX10_put 46 = .ok (.getfield 76, 3) := by decide +kernel
theorem dX10_put_49 : decode cX10_put 49 = .ok (.iconst 1, 1) := by decide +kernel
theorem dX10_put_50 : decode cX10_put 50 = .ok (.iadd, 1) := by decide +kernel
theorem dX10_put_51 : decode cX10_put 51 = .ok (.putfield 76, 3) := by decide +kernel
theorem dX10_put_54 : decode cX10_put 54 = .ok (.aload_n 0, 1) := by decide +kernel
theorem dX10_put_55 : decode cX10_put 55 = .ok (.aload_n 0, 1) := by decide +kernel
theorem dX10_put_56 : decode cX10_put 56 = .ok (.getfield 76, 3) := by decide +kernel
theorem dX10_put_59 : decode cX10_put 59 = .ok (.invokevirtual 73, 3) := by decide +kernel
theorem dX10_put_62 : decode cX10_put 62 = .ok (.ireturn, 1) := by decide +kernel
theorem dX10_draw_0 : decode cX10_draw 0 = .ok (.iload_n 1, 1) := by decide +kernel
theorem dX10_draw_1 : decode cX10_draw 1 = .ok (.i2l, 1) := by decide +kernel
theorem dX10_draw_2 : decode cX10_draw 2 = .ok (.lconst 1, 1) := by decide +kernel
theorem dX10_draw_3 : decode cX10_draw 3 = .ok (.ldc2_w 79, 3) := by decide +kernel
theorem dX10_draw_6 : decode cX10_draw 6 = .ok (.invokestatic 50, 3) := by decide +kernel
theorem dX10_draw_9 : decode cX10_draw 9 = .ok (.ifCond .eq 15, 3) := by decide +kernel
theorem dX10_draw_12 : decode cX10_draw 12 = .ok (.iload_n 3, 1) := by decide +kernel
theorem dX10_draw_13 : decode cX10_draw 13 = .ok (.i2l, 1) := by decide +kernel
theorem dX10_draw_14 : decode cX10_draw 14 = .ok (.lconst 0, 1) := by decide +kernel
theorem dX10_draw_15 : decode cX10_draw 15 = .ok (.ldc2_w 81, 3) := by decide +kernel
theorem dX10_draw_18 : decode cX10_draw 18 = .ok (.invokestatic 50, 3) := by decide +kernel
theorem dX10_draw_21 : decode cX10_draw 21 = .ok (.ifCond .ne 9, 3) := by decide +kernel
theorem dX10_draw_24 : decode cX10_draw 24 = .ok (.aload_n 0, 1) := by decide +kernel
theorem dX10_draw_25 : decode cX10_draw 25 = .ok (.iconst (-1), 1) := by decide +kernel
theorem dX10_draw_26 : decode cX10_draw 26 = .ok (.invokevirtual 58, 3) := by decide +kernel
theorem dX10_draw_29 : decode cX10_draw 29 = .ok (.ireturn, 1) := by decide +kernel
theorem dX10_draw_30 : decode cX10_draw 30 = .ok (.aload_n 0, 1) := by decide +kernel
theorem dX10_draw_31 : decode cX10_draw 31 = .ok (.getfield 76, 3) := by decide +kernel
theorem dX10_draw_34 : decode cX10_draw 34 = .ok (.iload_n 1, 1) := by decide +kernel
theorem dX10_draw_35 : decode cX10_draw 35 = .ok (.iadd, 1) := by decide +kernel
theorem dX10_draw_36 : decode cX10_draw 36 = .ok (.sipush 300, 3) := by decide +kernel
theorem dX10_draw_39 : decode cX10_draw 39 = .ok (.if_icmp .le 10, 3) := by decide +kernel
theorem dX10_draw_42 : decode cX10_draw 42 = .ok (.aload_n 0, 1) := by decide +kernel
theorem dX10_draw_43 : decode cX10_draw 43 = .ok (.bipush (-3), 2) := by decide +kernel
theorem dX10_draw_45 : decode cX10_draw 45 = .ok (.invokevirtual 58, 3) := by decide +kernel
theorem dX10_draw_48 : decode cX10_draw 48 = .ok (.ireturn, 1) := by decide +kernel
theorem dX10_draw_49 : decode cX10_draw 49 = .ok (.iload_n 2, 1) := by decide +kernel
theorem dX10_draw_50 : decode cX10_draw 50 = .ok (.istore 4, 2) := by decide +kernel
theorem dX10_draw_52 : decode cX10_draw 52 = .ok (.iconst 0, 1) := by decide +kernel
theorem dX10_draw_53 : decode cX10_draw 53 = .ok (.istore 5, 2) := by decide +kernel
theorem dX10_draw_55 : decode cX10_draw 55 = .ok (.iload 5, 2) := by decide +kernel
theorem dX10_draw_57 : decode cX10_draw 57 = .ok (.iload_n 1, 1) := by decide +kernel
theorem dX10_draw_58 : decode cX10_draw 58 = .ok (.if_icmp .ge 75, 3) := by decide +kernel
theorem dX10_draw_61 : decode cX10_draw 61 = .ok (.iload 4, 2) := by decide +kernel
theorem dX10_draw_63 : decode cX10_draw 63 = .ok (.ldc 83, 2) := by decide +kernel
theorem dX10_draw_65 : decode cX10_draw 65 = .ok (.imul, 1) := by decide +kernel
theorem dX10_draw_66 : decode cX10_draw 66 = .ok (.sipush 12345, 3) := by decide +kernel
theorem dX10_draw_69 : decode cX10_draw 69 = .ok (.iadd, 1) := by decide +kernel
theorem dX10_draw_70 : decode cX10_draw 70 = .ok (.ldc 84, 2) := by decide +kernel
theorem dX10_draw_72 : decode cX10_draw 72 = .ok (.iand, 1) := by decide +kernel
theorem dX10_draw_73 : decode cX10_draw 73 = .ok (.istore 4, 2) := by decide +kernel
theorem dX10_draw_75 : decode cX10_draw 75 = .ok (.aload_n 0, 1) := by decide +kernel
theorem dX10_draw_76 : decode cX10_draw 76 = .ok (.getfield 26, 3) := by decide +kernel
theorem dX10_draw_79 : decode cX10_draw 79 = .ok (.aload_n 0, 1) := by decide +kernel
theorem dX10_draw_80 : decode cX10_draw 80 = .ok (.getfield 76, 3) := by decide +kernel
theorem dX10_draw_83 : decode cX10_draw 83 = .ok (.aload_n 0, 1) := by decide +kernel
theorem dX10_draw_84 : decode cX10_draw 84 = .ok (.getfield 76, 3) := by decide +kernel
theorem dX10_draw_87 : decode cX10_draw 87 = .ok (.ifCond .ne 7, 3) := by decide +kernel
theorem dX10_draw_90 : decode cX10_draw 90 = .ok (.lconst 0, 1) := by decide +kernel
theorem dX10_draw_91 : decode cX10_draw 91 = .ok (.goto 14, 3) := by decide +kernel
theorem dX10_draw_94 : decode cX10_draw 94 = .ok (.aload_n 0, 1) := by decide +kernel
theorem dX10_draw_95 : decode cX10_draw 95 = .ok (.getfield 26, 3) := by decide +kernel
theorem dX10_draw_98 : decode cX10_draw 98 = .ok (.aload_n 0, 1) := by decide +kernel
theorem dX10_draw_99 : decode cX10_draw 99 = .ok (.getfield 76, 3) := by decide +kernel
theorem dX10_draw_102 : decode cX10_draw 102 = .ok (.iconst 1, 1) := by decide +kernel
theorem dX10_draw_103 : decode cX10_draw 103 = .ok (.isub, 1) := by decide +kernel
theorem dX10_draw_104 : decode cX10_draw 104 = .ok (.laload, 1) := by decide +kernel
theorem dX10_draw_105 : decode cX10_draw 105 = .ok (.iload 4, 2) := by decide +kernel
theorem dX10_draw_107 : decode cX10_draw 107 = .ok (.bipush 8, 2) := by decide +kernel
theorem dX10_draw_109 : decode cX10_draw 109 = .ok (.ishr, 1) := by decide +kernel
theorem dX10_draw_110 : decode cX10_draw 110 = .ok (.iload_n 3, 1) := by decide +kernel
theorem dX10_draw_111 : decode cX10_draw 111 = .ok (.iconst 1, 1) := by decide +kernel
theorem dX10_draw_112 : decode cX10_draw 112 = .ok (.iadd, 1) := by decide +kernel
theorem dX10_draw_113 : decode cX10_draw 113 = .ok (.irem, 1) := by decide +kernel
theorem dX10_draw_114 : decode cX10_draw 114 = .ok (.i2l, 1) := by decide +kernel
theorem dX10_draw_115 : decode cX10_draw 115 = .ok (.ladd, 1) := by decide +kernel
theorem dX10_draw_116 : decode cX10_draw 116 = .ok (.lastore, 1) := by decide +kernel
theorem dX10_draw_117 : decode cX10_draw 117 = .ok (.aload_n 0, 1) := by decide +kernel
theorem dX10_draw_118 : decode cX10_draw 118 = .ok (.dup, 1) := by decide +kernel
theorem dX10_draw_119 : decode cX10_draw 119 = .ok (.getfield 76, 3) := by decide +kernel
theorem dX10_draw_122 : decode cX10_draw 122 = .ok (.iconst 1, 1) := by decide +kernel
theorem dX10_draw_123 : decode cX10_draw 123 = .ok (.iadd, 1) := by decide +kernel
theorem dX10_draw_124 : decode cX10_draw 124 = .ok (.putfield 76, 3) := by decide +kernel
theorem dX10_draw_127 : decode cX10_draw 127 = .ok (.iinc 5 1, 3) := by decide +kernel
theorem dX10_draw_130 : decode cX10_draw 130 = .ok (.goto (-75), 3) := by decide +kernel
theorem dX10_draw_133 : decode cX10_draw 133 = .ok (.aload_n 0, 1) := by decide +kernel
theorem dX10_draw_134 : decode cX10_draw 134 = .ok (.aload_n 0, 1) := by decide +kernel
theorem dX10_draw_135 : decode cX10_draw 135 = .ok (.getfield 76, 3) := by decide +kernel
theorem dX10_draw_138 : decode cX10_draw 138 = .ok (.invokevirtual 73, 3) := by decide +kernel
theorem dX10_draw_141 : decode cX10_draw 141 = .ok (.ireturn, 1) := by decide +kernel
theorem dX10_drop_0 : decode cX10_drop 0 = .ok (.aload_n 0, 1) := by decide +kernel
theorem dX10_drop_1 : decode cX10_drop 1 = .ok (.getfield 76, 3) := by decide +kernel
theorem dX10_drop_4 : decode cX10_drop 4 = .ok (.istore_n 1, 1) := by decide +kernel
theorem dX10_drop_5 : decode cX10_drop 5 = .ok (.aload_n 0, 1) := by decide +kernel
theorem dX10_drop_6 : decode cX10_drop 6 = .ok (.iconst 0, 1) := by decide +kernel
theorem dX10_drop_7 : decode cX10_drop 7 = .ok (.putfield 76, 3) := by decide +kernel
theorem dX10_drop_10 : decode cX10_drop 10 = .ok (.aload_n 0, 1) := by decide +kernel
theorem dX10_drop_11 : decode cX10_drop 11 = .ok (.iload_n 1, 1) := by decide +kernel
theorem dX10_drop_12 : decode cX10_drop 12 = .ok (.invokevirtual 73, 3) := by decide +kernel
theorem dX10_drop_15 : decode cX10_drop 15 = .ok (.ireturn, 1) := by decide +kernel
theorem dX10_curve_0 : decode cX10_curve 0 = .ok (.iload_n 1, 1) := by decide +kernel
theorem dX10_curve_1 : decode cX10_curve 1 = .ok (.i2l, 1) := by decide +kernel
theorem dX10_curve_2 : decode cX10_curve 2 = .ok (.lconst 1, 1) := by decide +kernel
theorem dX10_curve_3 : decode cX10_curve 3 = .ok (.ldc2_w 85, 3) := by decide +kernel
theorem dX10_curve_6 : decode cX10_curve 6 = .ok (.invokestatic 50, 3) := by decide +kernel
theorem dX10_curve_9 : decode cX10_curve 9 = .ok (.ifCond .eq 15, 3) := by decide +kernel
theorem dX10_curve_12 : decode cX10_curve 12 = .ok (.iload_n 2, 1) := by decide +kernel
theorem dX10_curve_13 : decode cX10_curve 13 = .ok (.i2l, 1) := by decide +kernel
theorem dX10_curve_14 : decode cX10_curve 14 = .ok (.lconst 0, 1) := by decide +kernel
theorem dX10_curve_15 : decode cX10_curve 15 = .ok (.ldc2_w 62, 3) := by decide +kernel
theorem dX10_curve_18 : decode cX10_curve 18 = .ok (.invokestatic 50, 3) := by decide +kernel
theorem dX10_curve_21 : decode cX10_curve 21 = .ok (.ifCond .ne 9, 3) := by decide +kernel
theorem dX10_curve_24 : decode cX10_curve 24 = .ok (.aload_n 0, 1) := by decide +kernel
theorem dX10_curve_25 : decode cX10_curve 25 = .ok (.iconst (-1), 1) := by decide +kernel
theorem dX10_curve_26 : decode cX10_curve 26 = .ok (.invokevirtual 58, 3) := by decide +kernel
theorem dX10_curve_29 : decode cX10_curve 29 = .ok (.ireturn, 1) := by decide +kernel
theorem dX10_curve_30 : decode cX10_curve 30 = .ok (.aload_n 0, 1) := by decide +kernel
theorem dX10_curve_31 : decode cX10_curve 31 = .ok (.getfield 76, 3) := by decide +kernel
theorem dX10_curve_34 : decode cX10_curve 34 = .ok (.iload_n 1, 1) := by decide +kernel
theorem dX10_curve_35 : decode cX10_curve 35 = .ok (.if_icmp .lt 7, 3) := by decide +kernel
theorem dX10_curve_38 : decode cX10_curve 38 = .ok (.iconst 1, 1) := by decide +kernel
theorem dX10_curve_39 : decode cX10_curve 39 = .ok (.goto 4, 3) := by decide +kernel
theorem dX10_curve_42 : decode cX10_curve 42 = .ok (.iconst 0, 1) := by decide +kernel
theorem dX10_curve_43 : decode cX10_curve 43 = .ok (.istore_n 3, 1) := by decide +kernel
theorem dX10_curve_44 : decode cX10_curve 44 = .ok (.iconst 1, 1) := by decide +kernel
theorem dX10_curve_45 : decode cX10_curve 45 = .ok (.istore 4, 2) := by decide +kernel
theorem dX10_curve_47 : decode cX10_curve 47 = .ok (.iload 4, 2) := by decide +kernel
theorem dX10_curve_49 : decode cX10_curve 49 = .ok (.aload_n 0, 1) := by decide +kernel
theorem dX10_curve_50 : decode cX10_curve 50 = .ok (.getfield 76, 3) := by decide +kernel
theorem dX10_curve_53 : decode cX10_curve 53 = .ok (.if_icmp .ge 39, 3) := by decide +kernel
theorem dX10_curve_56 : decode cX10_curve 56 = .ok (.iload_n 3, 1) := by decide +kernel
theorem dX10_curve_57 : decode cX10_curve 57 = .ok (.ifCond .eq 35, 3) := by decide +kernel
theorem dX10_curve_60 : decode cX10_curve 60 = .ok (.aload_n 0, 1) := by decide +kernel
theorem dX10_curve_61 : decode cX10_curve 61 = .ok (.getfield 26, 3) := by decide +kernel
theorem dX10_curve_64 : decode cX10_curve 64 = .ok (.iload 4, 2) := by decide +kernel
theorem dX10_curve_66 : decode cX10_curve 66 = .ok (.laload, 1) := by decide +kernel
theorem dX10_curve_67 : decode cX10_curve 67 = .ok (.aload_n 0, 1) := by decide +kernel
theorem dX10_curve_68 : decode cX10_curve 68 = .ok (.getfield 26, 3) := by decide +kernel
theorem dX10_curve_71 : decode cX10_curve 71 = .ok (.iload 4, 2) := by decide +kernel
theorem dX10_curve_73 : decode cX10_curve 73 = .ok (.iconst 1, 1) := by decide +kernel
theorem dX10_curve_74 : decode cX10_curve 74 = .ok (.isub, 1) := by decide +kernel
theorem dX10_curve_75 : decode cX10_curve 75 = .ok (.laload, 1) := by decide +kernel
theorem dX10_curve_76 : decode cX10_curve 76 = .ok (.lcmp, 1) := by decide +kernel
theorem dX10_curve_77 : decode cX10_curve 77 = .ok (.ifCond .lt 7, 3) := by decide +kernel
theorem dX10_curve_80 : decode cX10_curve 80 = .ok (.iconst 1, 1) := by decide +kernel
theorem dX10_curve_81 : decode cX10_curve 81 = .ok (.goto 4, 3) := by decide +kernel
theorem dX10_curve_84 : decode cX10_curve 84 = .ok (.iconst 0, 1) := by decide +kernel
theorem dX10_curve_85 : decode cX10_curve 85 = .ok (.istore_n 3, 1) := by decide +kernel
theorem dX10_curve_86 : decode cX10_curve 86 = .ok (.iinc 4 1, 3) := by decide +kernel
theorem dX10_curve_89 : decode cX10_curve 89 = .ok (.goto (-42), 3) := by decide +kernel
theorem dX10_curve_92 : decode cX10_curve 92 = .ok (.iload_n 3, 1) := by decide +kernel
theorem dX10_curve_93 : decode cX10_curve 93 = .ok (.ifCond .eq 32, 3) := by decide +kernel
theorem dX10_curve_96 : decode cX10_curve 96 = .ok (.aload_n 0, 1) := by decide +kernel
theorem dX10_curve_97 : decode cX10_curve 97 = .ok (.getfield 26, 3) := by decide +kernel
theorem dX10_curve_100 : decode cX10_curve 100 = .ok (.aload_n 0, 1) := by decide +kernel
theorem dX10_curve_101 : decode cX10_curve 101 = .ok (.getfield 76, 3) := by decide +kernel
theorem dX10_curve_104 : decode cX10_curve 104 = .ok (.iload_n 1, 1) := by decide +kernel
theorem dX10_curve_105 : decode cX10_curve 105 = .ok (.isub, 1) := by decide +kernel
theorem dX10_curve_106 : decode cX10_curve 106 = .ok (.laload, 1) := by decide +kernel
theorem dX10_curve_107 : decode cX10_curve 107 = .ok (.iload_n 2, 1) := by decide +kernel
theorem dX10_curve_108 : decode cX10_curve 108 = .ok (.i2l, 1) := by decide +kernel
theorem dX10_curve_109 : decode cX10_curve 109 = .ok (.ladd, 1) := by decide +kernel
theorem dX10_curve_110 : decode cX10_curve 110 = .ok (.aload_n 0, 1) := by decide +kernel
theorem dX10_curve_111 : decode cX10_curve 111 = .ok (.getfield 26, 3) := by decide +kernel
theorem dX10_curve_114 : decode cX10_curve 114 = .ok (.aload_n 0, 1) := by decide +kernel
theorem dX10_curve_115 : decode cX10_curve 115 = .ok (.getfield 76, 3) := by decide +kernel
theorem dX10_curve_118 : decode cX10_curve 118 = .ok (.iconst 1, 1) := by decide +kernel
theorem dX10_curve_119 : decode cX10_curve 119 = .ok (.isub, 1) := by decide +kernel
theorem dX10_curve_120 : decode cX10_curve 120 = .ok (.laload, 1) := by decide +kernel
theorem dX10_curve_121 : decode cX10_curve 121 = .ok (.lcmp, 1) := by decide +kernel
theorem dX10_curve_122 : decode cX10_curve 122 = .ok (.ifCond .ge 10, 3) := by decide +kernel
theorem dX10_curve_125 : decode cX10_curve 125 = .ok (.aload_n 0, 1) := by decide +kernel
theorem dX10_curve_126 : decode cX10_curve 126 = .ok (.bipush (-2), 2) := by decide +kernel
theorem dX10_curve_128 : decode cX10_curve 128 = .ok (.invokevirtual 58, 3) := by decide +kernel
theorem dX10_curve_131 : decode cX10_curve 131 = .ok (.ireturn, 1) := by decide +kernel
theorem dX10_curve_132 : decode cX10_curve 132 = .ok (.aload_n 0, 1) := by decide +kernel
theorem dX10_curve_133 : decode cX10_curve 133 = .ok (.getfield 47, 3) := by decide +kernel
theorem dX10_curve_136 : decode cX10_curve 136 = .ok (.bipush 60, 2) := by decide +kernel
theorem dX10_curve_138 : decode cX10_curve 138 = .ok (.if_icmp .ne 10, 3) := by decide +kernel
theorem dX10_curve_141 : decode cX10_curve 141 = .ok (.aload_n 0, 1) := by decide +kernel
theorem dX10_curve_142 : decode cX10_curve 142 = .ok (.bipush (-3), 2) := by decide +kernel
theorem dX10_curve_144 : decode cX10_curve 144 = .ok (.invokevirtual 58, 3) := by decide +kernel
theorem dX10_curve_147 : decode cX10_curve 147 = .ok (.ireturn, 1) := by decide +kernel
theorem dX10_curve_148 : decode cX10_curve 148 = .ok (.iconst 0, 1) := by decide +kernel
theorem dX10_curve_149 : decode cX10_curve 149 = .ok (.istore 4, 2) := by decide +kernel
theorem dX10_curve_151 : decode cX10_curve 151 = .ok (.iload 4, 2) := by decide +kernel
theorem dX10_curve_153 : decode cX10_curve 153 = .ok (.sipush 760, 3) := by decide +kernel
theorem dX10_curve_156 : decode cX10_curve 156 = .ok (.if_icmp .ge 47, 3) := by decide +kernel
theorem dX10_curve_159 : decode cX10_curve 159 = .ok (.aload_n 0, 1) := by decide +kernel
theorem dX10_curve_160 : decode cX10_curve 160 = .ok (.getfield 39, 3) := by decide +kernel
theorem dX10_curve_163 : decode cX10_curve 163 = .ok (.iload 4, 2) := by decide +kernel
theorem dX10_curve_165 : decode cX10_curve 165 = .ok (.iload 4, 2) := by decide +kernel
theorem dX10_curve_167 : decode cX10_curve 167 = .ok (.aload_n 0, 1) := by decide +kernel
theorem dX10_curve_168 : decode cX10_curve 168 = .ok (.getfield 76, 3) := by decide +kernel
theorem dX10_curve_171 : decode cX10_curve 171 = .ok (.if_icmp .ge 13, 3) := by decide +kernel
theorem dX10_curve_174 : decode cX10_curve 174 = .ok (.aload_n 0, 1) := by decide +kernel
theorem dX10_curve_175 : decode cX10_curve 175 = .ok (.getfield 26, 3) := by decide +kernel
theorem dX10_curve_178 : decode cX10_curve 178 = .ok (.iload 4, 2) := by decide +kernel
theorem dX10_curve_180 : decode cX10_curve 180 = .ok (.laload, 1) := by decide +kernel
theorem dX10_curve_181 : decode cX10_curve 181 = .ok (.goto 15, 3) := by decide +kernel
theorem dX10_curve_184 : decode cX10_curve 184 = .ok (.aload_n 0, 1) := by decide +kernel
theorem dX10_curve_185 : decode cX10_curve 185 = .ok (.getfield 39, 3) := by decide +kernel
theorem dX10_curve_188 : decode cX10_curve 188 = .ok (.iload 4, 2) := by decide +kernel
theorem dX10_curve_190 : decode cX10_curve 190 = .ok (.iload_n 1, 1) := by decide +kernel
theorem dX10_curve_191 : decode cX10_curve 191 = .ok (.isub, 1) := by decide +kernel
theorem dX10_curve_192 : decode cX10_curve 192 = .ok (.laload, 1) := by decide +kernel
theorem dX10_curve_193 : decode cX10_curve 193 = .ok (.iload_n 2, 1) := by decide +kernel
theorem dX10_curve_194 : decode cX10_curve 194 = .ok (.i2l, 1) := by decide +kernel
theorem dX10_curve_195 : decode cX10_curve 195 = .ok (.ladd, 1) := by decide +kernel
theorem dX10_curve_196 : decode cX10_curve 196 = .ok (.lastore, 1) := by decide +kernel
theorem dX10_curve_197 : decode cX10_curve 197 = .ok (.iinc 4 1, 3) := by decide +kernel
theorem dX10_curve_200 : decode cX10_curve 200 = .ok (.goto (-49), 3) := by decide +kernel
theorem dX10_curve_203 : decode cX10_curve 203 = .ok (.aload_n 0, 1) := by decide +kernel
theorem dX10_curve_204 : decode cX10_curve 204 = .ok (.iload_n 1, 1) := by decide +kernel
theorem dX10_curve_205 : decode cX10_curve 205 = .ok (.iload_n 2, 1) := by decide +kernel
theorem dX10_curve_206 : decode cX10_curve 206 = .ok (.i2l, 1) := by decide +kernel
theorem dX10_curve_207 : decode cX10_curve 207 = .ok (.invokevirtual 87, 3) := by decide +kernel
theorem dX10_curve_210 : decode cX10_curve 210 = .ok (.istore 4, 2) := by decide +kernel
theorem dX10_curve_212 : decode cX10_curve 212 = .ok (.aload_n 0, 1) := by decide +kernel
theorem dX10_curve_213 : decode cX10_curve 213 = .ok (.iload 4, 2) := by decide +kernel
theorem dX10_curve_215 : decode cX10_curve 215 = .ok (.ifCond .lt 7, 3) := by decide +kernel
theorem dX10_curve_218 : decode cX10_curve 218 = .ok (.iconst 0, 1) := by decide +kernel
theorem dX10_curve_219 : decode cX10_curve 219 = .ok (.goto 7, 3) := by decide +kernel
theorem dX10_curve_222 : decode cX10_curve 222 = .ok (.aload_n 0, 1) := by decide +kernel
theorem dX10_curve_223 : decode cX10_curve 223 = .ok (.getfield 76, 3) := by decide +kernel
theorem dX10_curve_226 : decode cX10_curve 226 = .ok (.putfield 76, 3) := by decide +kernel
theorem dX10_curve_229 : decode cX10_curve 229 = .ok (.iload 4, 2) := by decide +kernel
theorem dX10_curve_231 : decode cX10_curve 231 = .ok (.ireturn, 1) := by decide +kernel
theorem dX10_ray_0 : decode cX10_ray 0 = .ok (.iload_n 1, 1) := by decide +kernel
theorem dX10_ray_1 : decode cX10_ray 1 = .ok (.i2l, 1) := by decide +kernel
theorem dX10_ray_2 : decode cX10_ray 2 = .ok (.lconst 0, 1) := by decide +kernel
theorem dX10_ray_3 : decode cX10_ray 3 = .ok (.ldc2_w 62, 3) := by decide +kernel
theorem dX10_ray_6 : decode cX10_ray 6 = .ok (.invokestatic 50, 3) := by decide +kernel
theorem dX10_ray_9 : decode cX10_ray 9 = .ok (.ifCond .ne 9, 3) := by decide +kernel
theorem dX10_ray_12 : decode cX10_ray 12 = .ok (.aload_n 0, 1) := by decide +kernel
theorem dX10_ray_13 : decode cX10_ray 13 = .ok (.iconst (-1), 1) := by decide +kernel
theorem dX10_ray_14 : decode cX10_ray 14 = .ok (.invokevirtual 58, 3) := by decide +kernel
theorem dX10_ray_17 : decode cX10_ray 17 = .ok (.ireturn, 1) := by decide +kernel
theorem dX10_ray_18 : decode cX10_ray 18 = .ok (.aload_n 0, 1) := by decide +kernel
theorem dX10_ray_19 : decode cX10_ray 19 = .ok (.getfield 47, 3) := by decide +kernel
theorem dX10_ray_22 : decode cX10_ray 22 = .ok (.bipush 60, 2) := by decide +kernel
theorem dX10_ray_24 : decode cX10_ray 24 = .ok (.if_icmp .ne 10, 3) := by decide +kernel
theorem dX10_ray_27 : decode cX10_ray 27 = .ok (.aload_n 0, 1) := by decide +kernel
theorem dX10_ray_28 : decode cX10_ray 28 = .ok (.bipush (-3), 2) := by decide +kernel
theorem dX10_ray_30 : decode cX10_ray 30 = .ok (.invokevirtual 58, 3) := by decide +kernel
theorem dX10_ray_33 : decode cX10_ray 33 = .ok (.ireturn, 1) := by decide +kernel
theorem dX10_ray_34 : decode cX10_ray 34 = .ok (.iconst 0, 1) := by decide +kernel
theorem dX10_ray_35 : decode cX10_ray 35 = .ok (.istore_n 2, 1) := by decide +kernel
theorem dX10_ray_36 : decode cX10_ray 36 = .ok (.iload_n 2, 1) := by decide +kernel
theorem dX10_ray_37 : decode cX10_ray 37 = .ok (.sipush 760, 3) := by decide +kernel
theorem dX10_ray_40 : decode cX10_ray 40 = .ok (.if_icmp .ge 20, 3) := by decide +kernel
theorem dX10_ray_43 : decode cX10_ray 43 = .ok (.aload_n 0, 1) := by decide +kernel
theorem dX10_ray_44 : decode cX10_ray 44 = .ok (.getfield 39, 3) := by decide +kernel
theorem dX10_ray_47 : decode cX10_ray 47 = .ok (.iload_n 2, 1) := by decide +kernel
theorem dX10_ray_48 : decode cX10_ray 48 = .ok (.iload_n 1, 1) := by decide +kernel
theorem dX10_ray_49 : decode cX10_ray 49 = .ok (.i2l, 1) := by decide +kernel
theorem dX10_ray_50 : decode cX10_ray 50 = .ok (.iload_n 2, 1) := by decide +kernel
theorem dX10_ray_51 : decode cX10_ray 51 = .ok (.i2l, 1) := by decide +kernel
theorem dX10_ray_52 : decode cX10_ray 52 = .ok (.lmul, 1) := by decide +kernel
theorem dX10_ray_53 : decode cX10_ray 53 = .ok (.lastore, 1) := by decide +kernel
theorem dX10_ray_54 : decode cX10_ray 54 = .ok (.iinc 2 1, 3) := by decide +kernel
theorem dX10_ray_57 : decode cX10_ray 57 = .ok (.goto (-21), 3) := by decide +kernel
theorem dX10_ray_60 : decode cX10_ray 60 = .ok (.aload_n 0, 1) := by decide +kernel
theorem dX10_ray_61 : decode cX10_ray 61 = .ok (.iconst 1, 1) := by decide +kernel
theorem dX10_ray_62 : decode cX10_ray 62 = .ok (.iload_n 1, 1) := by decide +kernel
theorem dX10_ray_63 : decode cX10_ray 63 = .ok (.i2l, 1) := by decide +kernel
theorem dX10_ray_64 : decode cX10_ray 64 = .ok (.invokevirtual 87, 3) := by decide +kernel
theorem dX10_ray_67 : decode cX10_ray 67 = .ok (.ireturn, 1) := by decide +kernel
theorem dX10_divisor_0 : decode cX10_divisor 0 = .ok (.iload_n 0, 1) := by decide +kernel
theorem dX10_divisor_1 : decode cX10_divisor 1 = .ok (.istore_n 2, 1) := by decide +kernel
theorem dX10_divisor_2 : decode cX10_divisor 2 = .ok (.iload_n 1, 1) := by decide +kernel
theorem dX10_divisor_3 : decode cX10_divisor 3 = .ok (.istore_n 3, 1) := by decide +kernel
theorem dX10_divisor_4 : decode cX10_divisor 4 = .ok (.iload_n 3, 1) := by decide +kernel
theorem dX10_divisor_5 : decode cX10_divisor 5 = .ok (.ifCond .le 16, 3) := by decide +kernel
theorem dX10_divisor_8 : decode cX10_divisor 8 = .ok (.iload_n 2, 1) := by decide +kernel
theorem dX10_divisor_9 : decode cX10_divisor 9 = .ok (.iload_n 3, 1) := by decide +kernel
theorem dX10_divisor_10 : decode cX10_divisor 10 = .ok (.irem, 1) := by decide +kernel
theorem dX10_divisor_11 : decode cX10_divisor 11 = .ok (.istore 4, 2) := by decide +kernel
theorem dX10_divisor_13 : decode cX10_divisor 13 = .ok (.iload_n 3, 1) := by decide +kernel
theorem dX10_divisor_14 : decode cX10_divisor 14 = .ok (.istore_n 2, 1) := by decide +kernel
theorem dX10_divisor_15 : decode cX10_divisor 15 = .ok (.iload 4, 2) := by decide +kernel
theorem dX10_divisor_17 : decode cX10_divisor 17 = .ok (.istore_n 3, 1) := by decide +kernel
theorem dX10_divisor_18 : decode cX10_divisor 18 = .ok (.goto (-14), 3) := by decide +kernel
theorem dX10_divisor_21 : decode cX10_divisor 21 = .ok (.iload_n 2, 1) := by decide +kernel
theorem dX10_divisor_22 : decode cX10_divisor 22 = .ok (.ireturn, 1) := by decide +kernel
theorem dX10_together_0 : decode cX10_together 0 = .ok (.aload_n 0, 1) := by decide +kernel
theorem dX10_together_1 : decode cX10_together 1 = .ok (.getfield 13, 3) := by decide +kernel
theorem dX10_together_4 : decode cX10_together 4 = .ok (.iload_n 1, 1) := by decide +kernel
theorem dX10_together_5 : decode cX10_together 5 = .ok (.iaload, 1) := by decide +kernel
theorem dX10_together_6 : decode cX10_together 6 = .ok (.aload_n 0, 1) := by decide +kernel
theorem dX10_together_7 : decode cX10_together 7 = .ok (.getfield 13, 3) := by decide +kernel
theorem dX10_together_10 : decode cX10_together 10 = .ok (.iload_n 1, 1) := by decide +kernel
theorem dX10_together_11 : decode cX10_together 11 = .ok (.iaload, 1) := by decide +kernel
theorem dX10_together_12 : decode cX10_together 12 = .ok (.aload_n 0, 1) := by decide +kernel
theorem dX10_together_13 : decode cX10_together 13 = .ok (.getfield 13, 3) := by decide +kernel
theorem dX10_together_16 : decode cX10_together 16 = .ok (.iload_n 2, 1) := by decide +kernel
theorem dX10_together_17 : decode cX10_together 17 = .ok (.iaload, 1) := by decide +kernel
theorem dX10_together_18 : decode cX10_together 18 = .ok (.invokestatic 91, 3) := by decide +kernel
theorem dX10_together_21 : decode cX10_together 21 = .ok (.idiv, 1) := by decide +kernel
theorem dX10_together_22 : decode cX10_together 22 = .ok (.aload_n 0, 1) := by decide +kernel
theorem dX10_together_23 : decode cX10_together 23 = .ok (.getfield 13, 3) := by decide +kernel
theorem dX10_together_26 : decode cX10_together 26 = .ok (.iload_n 2, 1) := by decide +kernel
theorem dX10_together_27 : decode cX10_together 27 = .ok (.iaload, 1) := by decide +kernel
theorem dX10_together_28 : decode cX10_together 28 = .ok (.imul, 1) := by decide +kernel
theorem dX10_together_29 : decode cX10_together 29 = .ok (.ireturn, 1) := by decide +kernel
theorem dX10_gainIn_0 : decode cX10_gainIn 0 = .ok (.aload_n 0, 1) := by decide +kernel
theorem dX10_gainIn_1 : decode cX10_gainIn 1 = .ok (.getfield 16, 3) := by decide +kernel
theorem dX10_gainIn_4 : decode cX10_gainIn 4 = .ok (.iload_n 1, 1) := by decide +kernel
theorem dX10_gainIn_5 : decode cX10_gainIn 5 = .ok (.laload, 1) := by decide +kernel
theorem dX10_gainIn_6 : decode cX10_gainIn 6 = .ok (.iload_n 2, 1) := by decide +kernel
theorem dX10_gainIn_7 : decode cX10_gainIn 7 = .ok (.aload_n 0, 1) := by decide +kernel
theorem dX10_gainIn_8 : decode cX10_gainIn 8 = .ok (.getfield 13, 3) := by decide +kernel
theorem dX10_gainIn_11 : decode cX10_gainIn 11 = .ok (.iload_n 1, 1) := by decide +kernel
theorem dX10_gainIn_12 : decode cX10_gainIn 12 = .ok (.iaload, 1) := by decide +kernel
theorem dX10_gainIn_13 : decode cX10_gainIn 13 = .ok (.idiv, 1) := by decide +kernel
theorem dX10_gainIn_14 : decode cX10_gainIn 14 = .ok (.i2l, 1) := by decide +kernel
theorem dX10_gainIn_15 : decode cX10_gainIn 15 = .ok (.lmul, 1) := by decide +kernel
theorem dX10_gainIn_16 : decode cX10_gainIn 16 = .ok (.lreturn, 1) := by decide +kernel
theorem dX10_least_0 : decode cX10_least 0 = .ok (.aload_n 0, 1) := by decide +kernel
theorem dX10_least_1 : decode cX10_least 1 = .ok (.iload_n 1, 1) := by decide +kernel
theorem dX10_least_2 : decode cX10_least 2 = .ok (.lconst 0, 1) := by decide +kernel
theorem dX10_least_3 : decode cX10_least 3 = .ok (.invokevirtual 95, 3) := by decide +kernel
theorem dX10_least_6 : decode cX10_least 6 = .ok (.aload_n 0, 1) := by decide +kernel
theorem dX10_least_7 : decode cX10_least 7 = .ok (.iload_n 2, 1) := by decide +kernel
theorem dX10_least_8 : decode cX10_least 8 = .ok (.iload_n 3, 1) := by decide +kernel
theorem dX10_least_9 : decode cX10_least 9 = .ok (.i2l, 1) := by decide +kernel
theorem dX10_least_10 : decode cX10_least 10 = .ok (.invokevirtual 95, 3) := by decide +kernel
theorem dX10_least_13 : decode cX10_least 13 = .ok (.ladd, 1) := by decide +kernel
theorem dX10_least_14 : decode cX10_least 14 = .ok (.lstore 4, 2) := by decide +kernel
theorem dX10_least_16 : decode cX10_least 16 = .ok (.iconst 1, 1) := by decide +kernel
theorem dX10_least_17 : decode cX10_least 17 = .ok (.istore 6, 2) := by decide +kernel
theorem dX10_least_19 : decode cX10_least 19 = .ok (.iload 6, 2) := by decide +kernel
theorem dX10_least_21 : decode cX10_least 21 = .ok (.iload_n 3, 1) := by decide +kernel
theorem dX10_least_22 : decode cX10_least 22 = .ok (.if_icmp .gt 47, 3) := by decide +kernel
theorem dX10_least_25 : decode cX10_least 25 = .ok (.aload_n 0, 1) := by decide +kernel
theorem dX10_least_26 : decode cX10_least 26 = .ok (.iload_n 1, 1) := by decide +kernel
theorem dX10_least_27 : decode cX10_least 27 = .ok (.iload 6, 2) := by decide +kernel
theorem dX10_least_29 : decode cX10_least 29 = .ok (.i2l, 1) := by decide +kernel
theorem dX10_least_30 : decode cX10_least 30 = .ok (.invokevirtual 95, 3) := by decide +kernel
theorem dX10_least_33 : decode cX10_least 33 = .ok (.aload_n 0, 1) := by decide +kernel
theorem dX10_least_34 : decode cX10_least 34 = .ok (.iload_n 2, 1) := by decide +kernel
theorem dX10_least_35 : decode cX10_least 35 = .ok (.iload_n 3, 1) := by decide +kernel
theorem dX10_least_36 : decode cX10_least 36 = .ok (.iload 6, 2) := by decide +kernel
theorem dX10_least_38 : decode cX10_least 38 = .ok (.isub, 1) := by decide +kernel
theorem dX10_least_39 : decode cX10_least 39 = .ok (.i2l, 1) := by decide +kernel
theorem dX10_least_40 : decode cX10_least 40 = .ok (.invokevirtual 95, 3) := by decide +kernel
theorem dX10_least_43 : decode cX10_least 43 = .ok (.ladd, 1) := by decide +kernel
theorem dX10_least_44 : decode cX10_least 44 = .ok (.lstore 7, 2) := by decide +kernel
theorem dX10_least_46 : decode cX10_least 46 = .ok (.lload 7, 2) := by decide +kernel
theorem dX10_least_48 : decode cX10_least 48 = .ok (.lload 4, 2) := by decide +kernel
theorem dX10_least_50 : decode cX10_least 50 = .ok (.lcmp, 1) := by decide +kernel
theorem dX10_least_51 : decode cX10_least 51 = .ok (.ifCond .ge 8, 3) := by decide +kernel
theorem dX10_least_54 : decode cX10_least 54 = .ok (.lload 7, 2) := by decide +kernel
theorem dX10_least_56 : decode cX10_least 56 = .ok (.goto 5, 3) := by decide +kernel
theorem dX10_least_59 : decode cX10_least 59 = .ok (.lload 4, 2) := by decide +kernel
theorem dX10_least_61 : decode cX10_least 61 = .ok (.lstore 4, 2) := by decide +kernel
theorem dX10_least_63 : decode cX10_least 63 = .ok (.iinc 6 1, 3) := by decide +kernel
theorem dX10_least_66 : decode cX10_least 66 = .ok (.goto (-47), 3) := by decide +kernel
theorem dX10_least_69 : decode cX10_least 69 = .ok (.lload 4, 2) := by decide +kernel
theorem dX10_least_71 : decode cX10_least 71 = .ok (.lreturn, 1) := by decide +kernel
theorem dX10_most_0 : decode cX10_most 0 = .ok (.aload_n 0, 1) := by decide +kernel
theorem dX10_most_1 : decode cX10_most 1 = .ok (.getfield 7, 3) := by decide +kernel
theorem dX10_most_4 : decode cX10_most 4 = .ok (.iload_n 1, 1) := by decide +kernel
theorem dX10_most_5 : decode cX10_most 5 = .ok (.iaload, 1) := by decide +kernel
theorem dX10_most_6 : decode cX10_most 6 = .ok (.aload_n 0, 1) := by decide +kernel
theorem dX10_most_7 : decode cX10_most 7 = .ok (.getfield 7, 3) := by decide +kernel
theorem dX10_most_10 : decode cX10_most 10 = .ok (.iload_n 2, 1) := by decide +kernel
theorem dX10_most_11 : decode cX10_most 11 = .ok (.iaload, 1) := by decide +kernel
theorem dX10_most_12 : decode cX10_most 12 = .ok (.if_icmp .le 12, 3) := by decide +kernel
theorem dX10_most_15 : decode cX10_most 15 = .ok (.aload_n 0, 1) := by decide +kernel
theorem dX10_most_16 : decode cX10_most 16 = .ok (.getfield 7, 3) := by decide +kernel
theorem dX10_most_19 : decode cX10_most 19 = .ok (.iload_n 1, 1) := by decide +kernel
theorem dX10_most_20 : decode cX10_most 20 = .ok (.iaload, 1) := by decide +kernel
theorem dX10_most_21 : decode cX10_most 21 = .ok (.goto 9, 3) := by decide +kernel
theorem dX10_most_24 : decode cX10_most 24 = .ok (.aload_n 0, 1) := by decide +kernel
theorem dX10_most_25 : decode cX10_most 25 = .ok (.getfield 7, 3) := by decide +kernel
theorem dX10_most_28 : decode cX10_most 28 = .ok (.iload_n 2, 1) := by decide +kernel
theorem dX10_most_29 : decode cX10_most 29 = .ok (.iaload, 1) := by decide +kernel
theorem dX10_most_30 : decode cX10_most 30 = .ok (.iload 4, 2) := by decide +kernel
theorem dX10_most_32 : decode cX10_most 32 = .ok (.iadd, 1) := by decide +kernel
theorem dX10_most_33 : decode cX10_most 33 = .ok (.istore 5, 2) := by decide +kernel
theorem dX10_most_35 : decode cX10_most 35 = .ok (.lconst 0, 1) := by decide +kernel
theorem dX10_most_36 : decode cX10_most 36 = .ok (.lstore 6, 2) := by decide +kernel
theorem dX10_most_38 : decode cX10_most 38 = .ok (.iconst 0, 1) := by decide +kernel
theorem dX10_most_39 : decode cX10_most 39 = .ok (.istore 8, 2) := by decide +kernel
theorem dX10_most_41 : decode cX10_most 41 = .ok (.iload 8, 2) := by decide +kernel
theorem dX10_most_43 : decode cX10_most 43 = .ok (.iload 5, 2) := by decide +kernel
theorem dX10_most_45 : decode cX10_most 45 = .ok (.if_icmp .ge 47, 3) := by decide +kernel
theorem dX10_most_48 : decode cX10_most 48 = .ok (.aload_n 0, 1) := by decide +kernel
theorem dX10_most_49 : decode cX10_most 49 = .ok (.iload_n 1, 1) := by decide +kernel
theorem dX10_most_50 : decode cX10_most 50 = .ok (.iload_n 3, 1) := by decide +kernel
theorem dX10_most_51 : decode cX10_most 51 = .ok (.iload 8, 2) := by decide +kernel
theorem dX10_most_53 : decode cX10_most 53 = .ok (.iadd, 1) := by decide +kernel
theorem dX10_most_54 : decode cX10_most 54 = .ok (.i2l, 1) := by decide +kernel
theorem dX10_most_55 : decode cX10_most 55 = .ok (.invokevirtual 95, 3) := by decide +kernel
theorem dX10_most_58 : decode cX10_most 58 = .ok (.aload_n 0, 1) := by decide +kernel
theorem dX10_most_59 : decode cX10_most 59 = .ok (.iload_n 2, 1) := by decide +kernel
theorem dX10_most_60 : decode cX10_most 60 = .ok (.iload 8, 2) := by decide +kernel
theorem dX10_most_62 : decode cX10_most 62 = .ok (.i2l, 1) := by decide +kernel
theorem dX10_most_63 : decode cX10_most 63 = .ok (.invokevirtual 95, 3) := by decide +kernel
theorem dX10_most_66 : decode cX10_most 66 = .ok (.lsub, 1) := by decide +kernel
theorem dX10_most_67 : decode cX10_most 67 = .ok (.lstore 9, 2) := by decide +kernel
theorem dX10_most_69 : decode cX10_most 69 = .ok (.lload 9, 2) := by decide +kernel
theorem dX10_most_71 : decode cX10_most 71 = .ok (.lload 6, 2) := by decide +kernel
theorem dX10_most_73 : decode cX10_most 73 = .ok (.lcmp, 1) := by decide +kernel
theorem dX10_most_74 : decode cX10_most 74 = .ok (.ifCond .le 8, 3) := by decide +kernel
theorem dX10_most_77 : decode cX10_most 77 = .ok (.lload 9, 2) := by decide +kernel
theorem dX10_most_79 : decode cX10_most 79 = .ok (.goto 5, 3) := by decide +kernel
theorem dX10_most_82 : decode cX10_most 82 = .ok (.lload 6, 2) := by decide +kernel
theorem dX10_most_84 : decode cX10_most 84 = .ok (.lstore 6, 2) := by decide +kernel
theorem dX10_most_86 : decode cX10_most 86 = .ok (.iinc 8 1, 3) := by decide +kernel
theorem dX10_most_89 : decode cX10_most 89 = .ok (.goto (-48), 3) := by decide +kernel
theorem dX10_most_92 : decode cX10_most 92 = .ok (.lload 6, 2) := by decide +kernel
theorem dX10_most_94 : decode cX10_most 94 = .ok (.lreturn, 1) := by decide +kernel
theorem dX10_make_0 : decode cX10_make 0 = .ok (.lconst 0, 1) := by decide +kernel
theorem dX10_make_1 : decode cX10_make 1 = .ok (.lstore 5, 2) := by decide +kernel
theorem dX10_make_3 : decode cX10_make 3 = .ok (.iconst 0, 1) := by decide +kernel
theorem dX10_make_4 : decode cX10_make 4 = .ok (.istore 7, 2) := by decide +kernel
theorem dX10_make_6 : decode cX10_make 6 = .ok (.iload 7, 2) := by decide +kernel
theorem dX10_make_8 : decode cX10_make 8 = .ok (.sipush 760, 3) := by decide +kernel
theorem dX10_make_11 : decode cX10_make 11 = .ok (.if_icmp .ge 153, 3) := by decide +kernel
theorem dX10_make_14 : decode cX10_make 14 = .ok (.aload_n 0, 1) := by decide +kernel
theorem dX10_make_15 : decode cX10_make 15 = .ok (.iload_n 2, 1) := by decide +kernel
theorem dX10_make_16 : decode cX10_make 16 = .ok (.iload 7, 2) := by decide +kernel
theorem dX10_make_18 : decode cX10_make 18 = .ok (.i2l, 1) := by decide +kernel
theorem dX10_make_19 : decode cX10_make 19 = .ok (.invokevirtual 95, 3) := by decide +kernel
theorem dX10_make_22 : decode cX10_make 22 = .ok (.lstore 8, 2) := by decide +kernel
theorem dX10_make_24 : decode cX10_make 24 = .ok (.aload_n 0, 1) := by decide +kernel
theorem dX10_make_25 : decode cX10_make 25 = .ok (.iload_n 3, 1) := by decide +kernel
theorem dX10_make_26 : decode cX10_make 26 = .ok (.iload 7, 2) := by decide +kernel
theorem dX10_make_28 : decode cX10_make 28 = .ok (.i2l, 1) := by decide +kernel
theorem dX10_make_29 : decode cX10_make 29 = .ok (.invokevirtual 95, 3) := by decide +kernel
theorem dX10_make_32 : decode cX10_make 32 = .ok (.lstore 10, 2) := by decide +kernel
theorem dX10_make_34 : decode cX10_make 34 = .ok (.lload 8, 2) := by decide +kernel
theorem dX10_make_36 : decode cX10_make 36 = .ok (.lload 10, 2) := by decide +kernel
theorem dX10_make_38 : decode cX10_make 38 = .ok (.lsub, 1) := by decide +kernel
theorem dX10_make_39 : decode cX10_make 39 = .ok (.lload 5, 2) := by decide +kernel
theorem dX10_make_41 : decode cX10_make 41 = .ok (.lcmp, 1) := by decide +kernel
theorem dX10_make_42 : decode cX10_make 42 = .ok (.ifCond .le 11, 3) := by decide +kernel
theorem dX10_make_45 : decode cX10_make 45 = .ok (.lload 8, 2) := by decide +kernel
theorem dX10_make_47 : decode cX10_make 47 = .ok (.lload 10, 2) := by decide +kernel
theorem dX10_make_49 : decode cX10_make 49 = .ok (.lsub, 1) := by decide +kernel
theorem dX10_make_50 : decode cX10_make 50 = .ok (.goto 5, 3) := by decide +kernel
theorem dX10_make_53 : decode cX10_make 53 = .ok (.lload 5, 2) := by decide +kernel
theorem dX10_make_55 : decode cX10_make 55 = .ok (.lstore 5, 2) := by decide +kernel
theorem dX10_make_57 : decode cX10_make 57 = .ok (.aload_n 0, 1) := by decide +kernel
theorem dX10_make_58 : decode cX10_make 58 = .ok (.getfield 39, 3) := by decide +kernel
theorem dX10_make_61 : decode cX10_make 61 = .ok (.iload 7, 2) := by decide +kernel
theorem dX10_make_63 : decode cX10_make 63 = .ok (.iload_n 1, 1) := by decide +kernel
theorem dX10_make_64 : decode cX10_make 64 = .ok (.ifCond .ne 11, 3) := by decide +kernel
theorem dX10_make_67 : decode cX10_make 67 = .ok (.lload 8, 2) := by decide +kernel
theorem dX10_make_69 : decode cX10_make 69 = .ok (.lload 10, 2) := by decide +kernel
theorem dX10_make_71 : decode cX10_make 71 = .ok (.ladd, 1) := by decide +kernel
theorem dX10_make_72 : decode cX10_make 72 = .ok (.goto 85, 3) := by decide +kernel
theorem dX10_make_75 : decode cX10_make 75 = .ok (.iload_n 1, 1) := by decide +kernel
theorem dX10_make_76 : decode cX10_make 76 = .ok (.iconst 1, 1) := by decide +kernel
theorem dX10_make_77 : decode cX10_make 77 = .ok (.if_icmp .ne 21, 3) := by decide +kernel
theorem dX10_make_80 : decode cX10_make 80 = .ok (.lload 8, 2) := by decide +kernel
theorem dX10_make_82 : decode cX10_make 82 = .ok (.lload 10, 2) := by decide +kernel
theorem dX10_make_84 : decode cX10_make 84 = .ok (.lcmp, 1) := by decide +kernel
theorem dX10_make_85 : decode cX10_make 85 = .ok (.ifCond .ge 8, 3) := by decide +kernel
theorem dX10_make_88 : decode cX10_make 88 = .ok (.lload 8, 2) := by decide +kernel
theorem dX10_make_90 : decode cX10_make 90 = .ok (.goto 67, 3) := by decide +kernel
theorem dX10_make_93 : decode cX10_make 93 = .ok (.lload 10, 2) := by decide +kernel
theorem dX10_make_95 : decode cX10_make 95 = .ok (.goto 62, 3) := by decide +kernel
theorem dX10_make_98 : decode cX10_make 98 = .ok (.iload_n 1, 1) := by decide +kernel
theorem dX10_make_99 : decode cX10_make 99 = .ok (.iconst 2, 1) := by decide +kernel
theorem dX10_make_100 : decode cX10_make 100 = .ok (.if_icmp .ne 21, 3) := by decide +kernel
theorem dX10_make_103 : decode cX10_make 103 = .ok (.lload 8, 2) := by decide +kernel
theorem dX10_make_105 : decode cX10_make 105 = .ok (.lload 10, 2) := by decide +kernel
theorem dX10_make_107 : decode cX10_make 107 = .ok (.lcmp, 1) := by decide +kernel
theorem dX10_make_108 : decode cX10_make 108 = .ok (.ifCond .le 8, 3) := by decide +kernel
theorem dX10_make_111 : decode cX10_make 111 = .ok (.lload 8, 2) := by decide +kernel
theorem dX10_make_113 : decode cX10_make 113 = .ok (.goto 44, 3) := by decide +kernel
theorem dX10_make_116 : decode cX10_make 116 = .ok (.lload 10, 2) := by decide +kernel
theorem dX10_make_118 : decode cX10_make 118 = .ok (.goto 39, 3) := by decide +kernel
theorem dX10_make_121 : decode cX10_make 121 = .ok (.iload_n 1, 1) := by decide +kernel
theorem dX10_make_122 : decode cX10_make 122 = .ok (.iconst 3, 1) := by decide +kernel
theorem dX10_make_123 : decode cX10_make 123 = .ok (.if_icmp .ne 8, 3) := by decide +kernel
theorem dX10_make_126 : decode cX10_make 126 = .ok (.lload 5, 2) := by decide +kernel
theorem dX10_make_128 : decode cX10_make 128 = .ok (.goto 29, 3) := by decide +kernel
theorem dX10_make_131 : decode cX10_make 131 = .ok (.iload_n 1, 1) := by decide +kernel
theorem dX10_make_132 : decode cX10_make 132 = .ok (.iconst 4, 1) := by decide +kernel
theorem dX10_make_133 : decode cX10_make 133 = .ok (.if_icmp .ne 14, 3) := by decide +kernel
theorem dX10_make_136 : decode cX10_make 136 = .ok (.aload_n 0, 1) := by decide +kernel
theorem dX10_make_137 : decode cX10_make 137 = .ok (.iload_n 2, 1) := by decide +kernel
theorem dX10_make_138 : decode cX10_make 138 = .ok (.iload_n 3, 1) := by decide +kernel
theorem dX10_make_139 : decode cX10_make 139 = .ok (.iload 7, 2) := by decide +kernel
theorem dX10_make_141 : decode cX10_make 141 = .ok (.invokevirtual 99, 3) := by decide +kernel
theorem dX10_make_144 : decode cX10_make 144 = .ok (.goto 13, 3) := by decide +kernel
theorem dX10_make_147 : decode cX10_make 147 = .ok (.aload_n 0, 1) := by decide +kernel
theorem dX10_make_148 : decode cX10_make 148 = .ok (.iload_n 2, 1) := by decide +kernel
theorem dX10_make_149 : decode cX10_make 149 = .ok (.iload_n 3, 1) := by decide +kernel
theorem dX10_make_150 : decode cX10_make 150 = .ok (.iload 7, 2) := by decide +kernel
theorem dX10_make_152 : decode cX10_make 152 = .ok (.iload 4, 2) := by decide +kernel
theorem dX10_make_154 : decode cX10_make 154 = .ok (.invokevirtual 103, 3) := by decide +kernel
theorem dX10_make_157 : decode cX10_make 157 = .ok (.lastore, 1) := by decide +kernel
theorem dX10_make_158 : decode cX10_make 158 = .ok (.iinc 7 1, 3) := by decide +kernel
theorem dX10_make_161 : decode cX10_make 161 = .ok (.goto (-155), 3) := by decide +kernel
theorem dX10_make_164 : decode cX10_make 164 = .ok (.return_, 1) := by decide +kernel
theorem dX10_of_0 : decode cX10_of 0 = .ok (.iload_n 1, 1) := by decide +kernel
theorem dX10_of_1 : decode cX10_of 1 = .ok (.i2l, 1) := by decide +kernel
theorem dX10_of_2 : decode cX10_of 2 = .ok (.lconst 0, 1) := by decide +kernel
theorem dX10_of_3 : decode cX10_of 3 = .ok (.ldc2_w 107, 3) := by decide +kernel
theorem dX10_of_6 : decode cX10_of 6 = .ok (.invokestatic 50, 3) := by decide +kernel
theorem dX10_of_9 : decode cX10_of 9 = .ok (.ifCond .eq 19, 3) := by decide +kernel
theorem dX10_of_12 : decode cX10_of 12 = .ok (.aload_n 0, 1) := by decide +kernel
theorem dX10_of_13 : decode cX10_of 13 = .ok (.iload_n 2, 1) := by decide +kernel
theorem dX10_of_14 : decode cX10_of 14 = .ok (.invokevirtual 109, 3) := by decide +kernel
theorem dX10_of_17 : decode cX10_of 17 = .ok (.ifCond .eq 11, 3) := by decide +kernel
theorem dX10_of_20 : decode cX10_of 20 = .ok (.aload_n 0, 1) := by decide +kernel
theorem dX10_of_21 : decode cX10_of 21 = .ok (.iload_n 3, 1) := by decide +kernel
theorem dX10_of_22 : decode cX10_of 22 = .ok (.invokevirtual 109, 3) := by decide +kernel
theorem dX10_of_25 : decode cX10_of 25 = .ok (.ifCond .ne 9, 3) := by decide +kernel
theorem dX10_of_28 : decode cX10_of 28 = .ok (.aload_n 0, 1) := by decide +kernel
theorem dX10_of_29 : decode cX10_of 29 = .ok (.iconst (-1), 1) := by decide +kernel
theorem dX10_of_30 : decode cX10_of 30 = .ok (.invokevirtual 58, 3) := by decide +kernel
theorem dX10_of_33 : decode cX10_of 33 = .ok (.ireturn, 1) := by decide +kernel
theorem dX10_of_34 : decode cX10_of 34 = .ok (.aload_n 0, 1) := by decide +kernel
theorem dX10_of_35 : decode cX10_of 35 = .ok (.getfield 47, 3) := by decide +kernel
theorem dX10_of_38 : decode cX10_of 38 = .ok (.bipush 60, 2) := by decide +kernel
theorem dX10_of_40 : decode cX10_of 40 = .ok (.if_icmp .ne 10, 3) := by decide +kernel
theorem dX10_of_43 : decode cX10_of 43 = .ok (.aload_n 0, 1) := by decide +kernel
theorem dX10_of_44 : decode cX10_of 44 = .ok (.bipush (-3), 2) := by decide +kernel
theorem dX10_of_46 : decode cX10_of 46 = .ok (.invokevirtual 58, 3) := by decide +kernel
theorem dX10_of_49 : decode cX10_of 49 = .ok (.ireturn, 1) := by decide +kernel
theorem dX10_of_50 : decode cX10_of 50 = .ok (.aload_n 0, 1) := by decide +kernel
theorem dX10_of_51 : decode cX10_of 51 = .ok (.iload_n 2, 1) := by decide +kernel
theorem dX10_of_52 : decode cX10_of 52 = .ok (.iload_n 3, 1) := by decide +kernel
theorem dX10_of_53 : decode cX10_of 53 = .ok (.invokevirtual 113, 3) := by decide +kernel
theorem dX10_of_56 : decode cX10_of 56 = .ok (.istore 4, 2) := by decide +kernel
theorem dX10_of_58 : decode cX10_of 58 = .ok (.iload 4, 2) := by decide +kernel
theorem dX10_of_60 : decode cX10_of 60 = .ok (.bipush 60, 2) := by decide +kernel
theorem dX10_of_62 : decode cX10_of 62 = .ok (.if_icmp .le 10, 3) := by decide +kernel
theorem dX10_of_65 : decode cX10_of 65 = .ok (.aload_n 0, 1) := by decide +kernel
theorem dX10_of_66 : decode cX10_of 66 = .ok (.bipush (-4), 2) := by decide +kernel
theorem dX10_of_68 : decode cX10_of 68 = .ok (.invokevirtual 58, 3) := by decide +kernel
theorem dX10_of_71 : decode cX10_of 71 = .ok (.ireturn, 1) := by decide +kernel
theorem dX10_of_72 : decode cX10_of 72 = .ok (.aload_n 0, 1) := by decide +kernel
theorem dX10_of_73 : decode cX10_of 73 = .ok (.iload_n 2, 1) := by decide +kernel
theorem dX10_of_74 : decode cX10_of 74 = .ok (.iload 4, 2) := by decide +kernel
theorem dX10_of_76 : decode cX10_of 76 = .ok (.invokevirtual 116, 3) := by decide +kernel
theorem dX10_of_79 : decode cX10_of 79 = .ok (.lstore 5, 2) := by decide +kernel
theorem dX10_of_81 : decode cX10_of 81 = .ok (.aload_n 0, 1) := by decide +kernel
theorem dX10_of_82 : decode cX10_of 82 = .ok (.iload_n 3, 1) := by decide +kernel
theorem dX10_of_83 : decode cX10_of 83 = .ok (.iload 4, 2) := by decide +kernel
theorem dX10_of_85 : decode cX10_of 85 = .ok (.invokevirtual 116, 3) := by decide +kernel
theorem dX10_of_88 : decode cX10_of 88 = .ok (.lstore 7, 2) := by decide +kernel
theorem dX10_of_90 : decode cX10_of 90 = .ok (.iload_n 1, 1) := by decide +kernel
theorem dX10_of_91 : decode cX10_of 91 = .ok (.iconst 5, 1) := by decide +kernel
theorem dX10_of_92 : decode cX10_of 92 = .ok (.if_icmp .ne 18, 3) := by decide +kernel
theorem dX10_of_95 : decode cX10_of 95 = .ok (.lload 5, 2) := by decide +kernel
theorem dX10_of_97 : decode cX10_of 97 = .ok (.lload 7, 2) := by decide +kernel
theorem dX10_of_99 : decode cX10_of 99 = .ok (.lcmp, 1) := by decide +kernel
theorem dX10_of_100 : decode cX10_of 100 = .ok (.ifCond .le 10, 3) := by decide +kernel
theorem dX10_of_103 : decode cX10_of 103 = .ok (.aload_n 0, 1) := by decide +kernel
theorem dX10_of_104 : decode cX10_of 104 = .ok (.bipush (-5), 2) := by decide +kernel
theorem dX10_of_106 : decode cX10_of 106 = .ok (.invokevirtual 58, 3) := by decide +kernel
theorem dX10_of_109 : decode cX10_of 109 = .ok (.ireturn, 1) := by decide +kernel
theorem dX10_of_110 : decode cX10_of 110 = .ok (.aload_n 0, 1) := by decide +kernel
theorem dX10_of_111 : decode cX10_of 111 = .ok (.iload_n 1, 1) := by decide +kernel
theorem dX10_of_112 : decode cX10_of 112 = .ok (.iload_n 2, 1) := by decide +kernel
theorem dX10_of_113 : decode cX10_of 113 = .ok (.iload_n 3, 1) := by decide +kernel
theorem dX10_of_114 : decode cX10_of 114 = .ok (.iload 4, 2) := by decide +kernel
theorem dX10_of_116 : decode cX10_of 116 = .ok (.invokevirtual 120, 3) := by decide +kernel
theorem dX10_of_119 : decode cX10_of 119 = .ok (.iload_n 1, 1) := by decide +kernel
theorem dX10_of_120 : decode cX10_of 120 = .ok (.ifCond .ne 11, 3) := by decide +kernel
theorem dX10_of_123 : decode cX10_of 123 = .ok (.lload 5, 2) := by decide +kernel
theorem dX10_of_125 : decode cX10_of 125 = .ok (.lload 7, 2) := by decide +kernel
theorem dX10_of_127 : decode cX10_of 127 = .ok (.ladd, 1) := by decide +kernel
theorem dX10_of_128 : decode cX10_of 128 = .ok (.goto 76, 3) := by decide +kernel
theorem dX10_of_131 : decode cX10_of 131 = .ok (.iload_n 1, 1) := by decide +kernel
theorem dX10_of_132 : decode cX10_of 132 = .ok (.iconst 2, 1) := by decide +kernel
theorem dX10_of_133 : decode cX10_of 133 = .ok (.if_icmp .ne 21, 3) := by decide +kernel
theorem dX10_of_136 : decode cX10_of 136 = .ok (.lload 5, 2) := by decide +kernel
theorem dX10_of_138 : decode cX10_of 138 = .ok (.lload 7, 2) := by decide +kernel
theorem dX10_of_140 : decode cX10_of 140 = .ok (.lcmp, 1) := by decide +kernel
theorem dX10_of_141 : decode cX10_of 141 = .ok (.ifCond .le 8, 3) := by decide +kernel
theorem dX10_of_144 : decode cX10_of 144 = .ok (.lload 5, 2) := by decide +kernel
theorem dX10_of_146 : decode cX10_of 146 = .ok (.goto 58, 3) := by decide +kernel
theorem dX10_of_149 : decode cX10_of 149 = .ok (.lload 7, 2) := by decide +kernel
theorem dX10_of_151 : decode cX10_of 151 = .ok (.goto 53, 3) := by decide +kernel
theorem dX10_of_154 : decode cX10_of 154 = .ok (.iload_n 1, 1) := by decide +kernel
theorem dX10_of_155 : decode cX10_of 155 = .ok (.iconst 3, 1) := by decide +kernel
theorem dX10_of_156 : decode cX10_of 156 = .ok (.if_icmp .ne 23, 3) := by decide +kernel
theorem dX10_of_159 : decode cX10_of 159 = .ok (.lload 5, 2) := by decide +kernel
theorem dX10_of_161 : decode cX10_of 161 = .ok (.lload 7, 2) := by decide +kernel
theorem dX10_of_163 : decode cX10_of 163 = .ok (.lcmp, 1) := by decide +kernel
theorem dX10_of_164 : decode cX10_of 164 = .ok (.ifCond .le 11, 3) := by decide +kernel
theorem dX10_of_167 : decode cX10_of 167 = .ok (.lload 5, 2) := by decide +kernel
theorem dX10_of_169 : decode cX10_of 169 = .ok (.lload 7, 2) := by decide +kernel
theorem dX10_of_171 : decode cX10_of 171 = .ok (.lsub, 1) := by decide +kernel
theorem dX10_of_172 : decode cX10_of 172 = .ok (.goto 32, 3) := by decide +kernel
theorem dX10_of_175 : decode cX10_of 175 = .ok (.lconst 0, 1) := by decide +kernel
theorem dX10_of_176 : decode cX10_of 176 = .ok (.goto 28, 3) := by decide +kernel
theorem dX10_of_179 : decode cX10_of 179 = .ok (.iload_n 1, 1) := by decide +kernel
theorem dX10_of_180 : decode cX10_of 180 = .ok (.iconst 5, 1) := by decide +kernel
theorem dX10_of_181 : decode cX10_of 181 = .ok (.if_icmp .ne 8, 3) := by decide +kernel
theorem dX10_of_184 : decode cX10_of 184 = .ok (.lload 5, 2) := by decide +kernel
theorem dX10_of_186 : decode cX10_of 186 = .ok (.goto 18, 3) := by decide +kernel
theorem dX10_of_189 : decode cX10_of 189 = .ok (.lload 5, 2) := by decide +kernel
theorem dX10_of_191 : decode cX10_of 191 = .ok (.lload 7, 2) := by decide +kernel
theorem dX10_of_193 : decode cX10_of 193 = .ok (.lcmp, 1) := by decide +kernel
theorem dX10_of_194 : decode cX10_of 194 = .ok (.ifCond .ge 8, 3) := by decide +kernel
theorem dX10_of_197 : decode cX10_of 197 = .ok (.lload 5, 2) := by decide +kernel
theorem dX10_of_199 : decode cX10_of 199 = .ok (.goto 5, 3) := by decide +kernel
theorem dX10_of_202 : decode cX10_of 202 = .ok (.lload 7, 2) := by decide +kernel
theorem dX10_of_204 : decode cX10_of 204 = .ok (.lstore 9, 2) := by decide +kernel
theorem dX10_of_206 : decode cX10_of 206 = .ok (.aload_n 0, 1) := by decide +kernel
theorem dX10_of_207 : decode cX10_of 207 = .ok (.iload 4, 2) := by decide +kernel
theorem dX10_of_209 : decode cX10_of 209 = .ok (.lload 9, 2) := by decide +kernel
theorem dX10_of_211 : decode cX10_of 211 = .ok (.invokevirtual 87, 3) := by decide +kernel
theorem dX10_of_214 : decode cX10_of 214 = .ok (.ireturn, 1) := by decide +kernel
theorem dX10_times_0 : decode cX10_times 0 = .ok (.aload_n 0, 1) := by decide +kernel
theorem dX10_times_1 : decode cX10_times 1 = .ok (.iload_n 1, 1) := by decide +kernel
theorem dX10_times_2 : decode cX10_times 2 = .ok (.invokevirtual 109, 3) := by decide +kernel
theorem dX10_times_5 : decode cX10_times 5 = .ok (.ifCond .eq 15, 3) := by decide +kernel
theorem dX10_times_8 : decode cX10_times 8 = .ok (.iload_n 2, 1) := by decide +kernel
theorem dX10_times_9 : decode cX10_times 9 = .ok (.i2l, 1) := by decide +kernel
theorem dX10_times_10 : decode cX10_times 10 = .ok (.lconst 0, 1) := by decide +kernel
theorem dX10_times_11 : decode cX10_times 11 = .ok (.ldc2_w 124, 3) := by decide +kernel
theorem dX10_times_14 : decode cX10_times 14 = .ok (.invokestatic 50, 3) := by decide +kernel
theorem dX10_times_17 : decode cX10_times 17 = .ok (.ifCond .ne 9, 3) := by decide +kernel
theorem dX10_times_20 : decode cX10_times 20 = .ok (.aload_n 0, 1) := by decide +kernel
theorem dX10_times_21 : decode cX10_times 21 = .ok (.iconst (-1), 1) := by decide +kernel
theorem dX10_times_22 : decode cX10_times 22 = .ok (.invokevirtual 58, 3) := by decide +kernel
theorem dX10_times_25 : decode cX10_times 25 = .ok (.ireturn, 1) := by decide +kernel
theorem dX10_times_26 : decode cX10_times 26 = .ok (.aload_n 0, 1) := by decide +kernel
theorem dX10_times_27 : decode cX10_times 27 = .ok (.getfield 47, 3) := by decide +kernel
theorem dX10_times_30 : decode cX10_times 30 = .ok (.bipush 60, 2) := by decide +kernel
theorem dX10_times_32 : decode cX10_times 32 = .ok (.if_icmp .ne 10, 3) := by decide +kernel
theorem dX10_times_35 : decode cX10_times 35 = .ok (.aload_n 0, 1) := by decide +kernel
theorem dX10_times_36 : decode cX10_times 36 = .ok (.bipush (-3), 2) := by decide +kernel
theorem dX10_times_38 : decode cX10_times 38 = .ok (.invokevirtual 58, 3) := by decide +kernel
theorem dX10_times_41 : decode cX10_times 41 = .ok (.ireturn, 1) := by decide +kernel
theorem dX10_times_42 : decode cX10_times 42 = .ok (.iconst 0, 1) := by decide +kernel
theorem dX10_times_43 : decode cX10_times 43 = .ok (.istore_n 3, 1) := by decide +kernel
theorem dX10_times_44 : decode cX10_times 44 = .ok (.iload_n 3, 1) := by decide +kernel
theorem dX10_times_45 : decode cX10_times 45 = .ok (.sipush 760, 3) := by decide +kernel
theorem dX10_times_48 : decode cX10_times 48 = .ok (.if_icmp .ge 25, 3) := by decide +kernel
theorem dX10_times_51 : decode cX10_times 51 = .ok (.aload_n 0, 1) := by decide +kernel
theorem dX10_times_52 : decode cX10_times 52 = .ok (.getfield 39, 3) := by decide +kernel
theorem dX10_times_55 : decode cX10_times 55 = .ok (.iload_n 3, 1) := by decide +kernel
theorem dX10_times_56 : decode cX10_times 56 = .ok (.iload_n 2, 1) := by decide +kernel
theorem dX10_times_57 : decode cX10_times 57 = .ok (.i2l, 1) := by decide +kernel
theorem dX10_times_58 : decode cX10_times 58 = .ok (.aload_n 0, 1) := by decide +kernel
theorem dX10_times_59 : decode cX10_times 59 = .ok (.iload_n 1, 1) := by decide +kernel
theorem dX10_times_60 : decode cX10_times 60 = .ok (.iload_n 3, 1) := by decide +kernel
theorem dX10_times_61 : decode cX10_times 61 = .ok (.i2l, 1) := by decide +kernel
theorem dX10_times_62 : decode cX10_times 62 = .ok (.invokevirtual 95, 3) := by decide +kernel
theorem dX10_times_65 : decode cX10_times 65 = .ok (.lmul, 1) := by decide +kernel
theorem dX10_times_66 : decode cX10_times 66 = .ok (.lastore, 1) := by decide +kernel
theorem dX10_times_67 : decode cX10_times 67 = .ok (.iinc 3 1, 3) := by decide +kernel
theorem dX10_times_70 : decode cX10_times 70 = .ok (.goto (-26), 3) := by decide +kernel
theorem dX10_times_73 : decode cX10_times 73 = .ok (.aload_n 0, 1) := by decide +kernel
theorem dX10_times_74 : decode cX10_times 74 = .ok (.aload_n 0, 1) := by decide +kernel
theorem dX10_times_75 : decode cX10_times 75 = .ok (.getfield 13, 3) := by decide +kernel
theorem dX10_times_78 : decode cX10_times 78 = .ok (.iload_n 1, 1) := by decide +kernel
theorem dX10_times_79 : decode cX10_times 79 = .ok (.iaload, 1) := by decide +kernel
theorem dX10_times_80 : decode cX10_times 80 = .ok (.iload_n 2, 1) := by decide +kernel
theorem dX10_times_81 : decode cX10_times 81 = .ok (.i2l, 1) := by decide +kernel
theorem dX10_times_82 : decode cX10_times 82 = .ok (.aload_n 0, 1) := by decide +kernel
theorem dX10_times_83 : decode cX10_times 83 = .ok (.getfield 16, 3) := by decide +kernel
theorem dX10_times_86 : decode cX10_times 86 = .ok (.iload_n 1, 1) := by decide +kernel
theorem dX10_times_87 : decode cX10_times 87 = .ok (.laload, 1) := by decide +kernel
theorem dX10_times_88 : decode cX10_times 88 = .ok (.lmul, 1) := by decide +kernel
theorem dX10_times_89 : decode cX10_times 89 = .ok (.invokevirtual 87, 3) := by decide +kernel
theorem dX10_times_92 : decode cX10_times 92 = .ok (.ireturn, 1) := by decide +kernel
theorem dX10_shift_0 : decode cX10_shift 0 = .ok (.aload_n 0, 1) := by decide +kernel
theorem dX10_shift_1 : decode cX10_shift 1 = .ok (.iload_n 1, 1) := by decide +kernel
theorem dX10_shift_2 : decode cX10_shift 2 = .ok (.invokevirtual 109, 3) := by decide +kernel
theorem dX10_shift_5 : decode cX10_shift 5 = .ok (.ifCond .eq 15, 3) := by decide +kernel
theorem dX10_shift_8 : decode cX10_shift 8 = .ok (.iload_n 2, 1) := by decide +kernel
theorem dX10_shift_9 : decode cX10_shift 9 = .ok (.i2l, 1) := by decide +kernel
theorem dX10_shift_10 : decode cX10_shift 10 = .ok (.lconst 0, 1) := by decide +kernel
theorem dX10_shift_11 : decode cX10_shift 11 = .ok (.ldc2_w 126, 3) := by decide +kernel
theorem dX10_shift_14 : decode cX10_shift 14 = .ok (.invokestatic 50, 3) := by decide +kernel
theorem dX10_shift_17 : decode cX10_shift 17 = .ok (.ifCond .ne 9, 3) := by decide +kernel
theorem dX10_shift_20 : decode cX10_shift 20 = .ok (.aload_n 0, 1) := by decide +kernel
theorem dX10_shift_21 : decode cX10_shift 21 = .ok (.iconst (-1), 1) := by decide +kernel
theorem dX10_shift_22 : decode cX10_shift 22 = .ok (.invokevirtual 58, 3) := by decide +kernel
theorem dX10_shift_25 : decode cX10_shift 25 = .ok (.ireturn, 1) := by decide +kernel
theorem dX10_shift_26 : decode cX10_shift 26 = .ok (.aload_n 0, 1) := by decide +kernel
theorem dX10_shift_27 : decode cX10_shift 27 = .ok (.getfield 47, 3) := by decide +kernel
theorem dX10_shift_30 : decode cX10_shift 30 = .ok (.bipush 60, 2) := by decide +kernel
theorem dX10_shift_32 : decode cX10_shift 32 = .ok (.if_icmp .ne 10, 3) := by decide +kernel
theorem dX10_shift_35 : decode cX10_shift 35 = .ok (.aload_n 0, 1) := by decide +kernel
theorem dX10_shift_36 : decode cX10_shift 36 = .ok (.bipush (-3), 2) := by decide +kernel
theorem dX10_shift_38 : decode cX10_shift 38 = .ok (.invokevirtual 58, 3) := by decide +kernel
theorem dX10_shift_41 : decode cX10_shift 41 = .ok (.ireturn, 1) := by decide +kernel
theorem dX10_shift_42 : decode cX10_shift 42 = .ok (.iconst 0, 1) := by decide +kernel
theorem dX10_shift_43 : decode cX10_shift 43 = .ok (.istore_n 3, 1) := by decide +kernel
theorem dX10_shift_44 : decode cX10_shift 44 = .ok (.iload_n 3, 1) := by decide +kernel
theorem dX10_shift_45 : decode cX10_shift 45 = .ok (.sipush 760, 3) := by decide +kernel
theorem dX10_shift_48 : decode cX10_shift 48 = .ok (.if_icmp .ge 33, 3) := by decide +kernel
theorem dX10_shift_51 : decode cX10_shift 51 = .ok (.aload_n 0, 1) := by decide +kernel
theorem dX10_shift_52 : decode cX10_shift 52 = .ok (.getfield 39, 3) := by decide +kernel
theorem dX10_shift_55 : decode cX10_shift 55 = .ok (.iload_n 3, 1) := by decide +kernel
theorem dX10_shift_56 : decode cX10_shift 56 = .ok (.iload_n 3, 1) := by decide +kernel
theorem dX10_shift_57 : decode cX10_shift 57 = .ok (.iload_n 2, 1) := by decide +kernel
theorem dX10_shift_58 : decode cX10_shift 58 = .ok (.if_icmp .ge 7, 3) := by decide +kernel
theorem dX10_shift_61 : decode cX10_shift 61 = .ok (.lconst 0, 1) := by decide +kernel
theorem dX10_shift_62 : decode cX10_shift 62 = .ok (.goto 12, 3) := by decide +kernel
theorem dX10_shift_65 : decode cX10_shift 65 = .ok (.aload_n 0, 1) := by decide +kernel
theorem dX10_shift_66 : decode cX10_shift 66 = .ok (.iload_n 1, 1) := by decide +kernel
theorem dX10_shift_67 : decode cX10_shift 67 = .ok (.iload_n 3, 1) := by decide +kernel
theorem dX10_shift_68 : decode cX10_shift 68 = .ok (.iload_n 2, 1) := by decide +kernel
theorem dX10_shift_69 : decode cX10_shift 69 = .ok (.isub, 1) := by decide +kernel
theorem dX10_shift_70 : decode cX10_shift 70 = .ok (.i2l, 1) := by decide +kernel
theorem dX10_shift_71 : decode cX10_shift 71 = .ok (.invokevirtual 95, 3) := by decide +kernel
theorem dX10_shift_74 : decode cX10_shift 74 = .ok (.lastore, 1) := by decide +kernel
theorem dX10_shift_75 : decode cX10_shift 75 = .ok (.iinc 3 1, 3) := by decide +kernel
theorem dX10_shift_78 : decode cX10_shift 78 = .ok (.goto (-34), 3) := by decide +kernel
theorem dX10_shift_81 : decode cX10_shift 81 = .ok (.aload_n 0, 1) := by decide +kernel
theorem dX10_shift_82 : decode cX10_shift 82 = .ok (.aload_n 0, 1) := by decide +kernel
theorem dX10_shift_83 : decode cX10_shift 83 = .ok (.getfield 13, 3) := by decide +kernel
theorem dX10_shift_86 : decode cX10_shift 86 = .ok (.iload_n 1, 1) := by decide +kernel
theorem dX10_shift_87 : decode cX10_shift 87 = .ok (.iaload, 1) := by decide +kernel
theorem dX10_shift_88 : decode cX10_shift 88 = .ok (.aload_n 0, 1) := by decide +kernel
theorem dX10_shift_89 : decode cX10_shift 89 = .ok (.getfield 16, 3) := by decide +kernel
theorem dX10_shift_92 : decode cX10_shift 92 = .ok (.iload_n 1, 1) := by decide +kernel
theorem dX10_shift_93 : decode cX10_shift 93 = .ok (.laload, 1) := by decide +kernel
theorem dX10_shift_94 : decode cX10_shift 94 = .ok (.invokevirtual 87, 3) := by decide +kernel
theorem dX10_shift_97 : decode cX10_shift 97 = .ok (.ireturn, 1) := by decide +kernel
theorem dX10_undo_0 : decode cX10_undo 0 = .ok (.aload_n 0, 1) := by decide +kernel
theorem dX10_undo_1 : decode cX10_undo 1 = .ok (.getfield 69, 3) := by decide +kernel
theorem dX10_undo_4 : decode cX10_undo 4 = .ok (.ifCond .ne 10, 3) := by decide +kernel
theorem dX10_undo_7 : decode cX10_undo 7 = .ok (.aload_n 0, 1) := by decide +kernel
theorem dX10_undo_8 : decode cX10_undo 8 = .ok (.bipush (-2), 2) := by decide +kernel
theorem dX10_undo_10 : decode cX10_undo 10 = .ok (.invokevirtual 58, 3) := by decide +kernel
theorem dX10_undo_13 : decode cX10_undo 13 = .ok (.ireturn, 1) := by decide +kernel
theorem dX10_undo_14 : decode cX10_undo 14 = .ok (.aload_n 0, 1) := by decide +kernel
theorem dX10_undo_15 : decode cX10_undo 15 = .ok (.iconst 0, 1) := by decide +kernel
theorem dX10_undo_16 : decode cX10_undo 16 = .ok (.putfield 69, 3) := by decide +kernel
theorem dX10_undo_19 : decode cX10_undo 19 = .ok (.aload_n 0, 1) := by decide +kernel
theorem dX10_undo_20 : decode cX10_undo 20 = .ok (.dup, 1) := by decide +kernel
theorem dX10_undo_21 : decode cX10_undo 21 = .ok (.getfield 47, 3) := by decide +kernel
theorem dX10_undo_24 : decode cX10_undo 24 = .ok (.iconst 1, 1) := by decide +kernel
theorem dX10_undo_25 : decode cX10_undo 25 = .ok (.isub, 1) := by decide +kernel
theorem dX10_undo_26 : decode cX10_undo 26 = .ok (.putfield 47, 3) := by decide +kernel
theorem dX10_undo_29 : decode cX10_undo 29 = .ok (.aload_n 0, 1) := by decide +kernel
theorem dX10_undo_30 : decode cX10_undo 30 = .ok (.aload_n 0, 1) := by decide +kernel
theorem dX10_undo_31 : decode cX10_undo 31 = .ok (.getfield 32, 3) := by decide +kernel
theorem dX10_undo_34 : decode cX10_undo 34 = .ok (.aload_n 0, 1) := by decide +kernel
theorem dX10_undo_35 : decode cX10_undo 35 = .ok (.getfield 47, 3) := by decide +kernel
theorem dX10_undo_38 : decode cX10_undo 38 = .ok (.if_icmp .ne 7, 3) := by decide +kernel
theorem dX10_undo_41 : decode cX10_undo 41 = .ok (.iconst (-1), 1) := by decide +kernel
theorem dX10_undo_42 : decode cX10_undo 42 = .ok (.goto 7, 3) := by decide +kernel
theorem dX10_undo_45 : decode cX10_undo 45 = .ok (.aload_n 0, 1) := by decide +kernel
theorem dX10_undo_46 : decode cX10_undo 46 = .ok (.getfield 32, 3) := by decide +kernel
theorem dX10_undo_49 : decode cX10_undo 49 = .ok (.putfield 32, 3) := by decide +kernel
theorem dX10_undo_52 : decode cX10_undo 52 = .ok (.aload_n 0, 1) := by decide +kernel
theorem dX10_undo_53 : decode cX10_undo 53 = .ok (.aload_n 0, 1) := by decide +kernel
theorem dX10_undo_54 : decode cX10_undo 54 = .ok (.getfield 47, 3) := by decide +kernel
theorem dX10_undo_57 : decode cX10_undo 57 = .ok (.invokevirtual 73, 3) := by decide +kernel
theorem dX10_undo_60 : decode cX10_undo 60 = .ok (.ireturn, 1) := by decide +kernel
theorem dX10_at_0 : decode cX10_at 0 = .ok (.aload_n 0, 1) := by decide +kernel
theorem dX10_at_1 : decode cX10_at 1 = .ok (.iload_n 1, 1) := by decide +kernel
theorem dX10_at_2 : decode cX10_at 2 = .ok (.invokevirtual 109, 3) := by decide +kernel
theorem dX10_at_5 : decode cX10_at 5 = .ok (.ifCond .eq 15, 3) := by decide +kernel
theorem dX10_at_8 : decode cX10_at 8 = .ok (.iload_n 2, 1) := by decide +kernel
theorem dX10_at_9 : decode cX10_at 9 = .ok (.i2l, 1) := by decide +kernel
theorem dX10_at_10 : decode cX10_at 10 = .ok (.lconst 0, 1) := by decide +kernel
theorem dX10_at_11 : decode cX10_at 11 = .ok (.ldc2_w 62, 3) := by decide +kernel
theorem dX10_at_14 : decode cX10_at 14 = .ok (.invokestatic 50, 3) := by decide +kernel
theorem dX10_at_17 : decode cX10_at 17 = .ok (.ifCond .ne 9, 3) := by decide +kernel
theorem dX10_at_20 : decode cX10_at 20 = .ok (.aload_n 0, 1) := by decide +kernel
theorem dX10_at_21 : decode cX10_at 21 = .ok (.iconst (-1), 1) := by decide +kernel
theorem dX10_at_22 : decode cX10_at 22 = .ok (.invokevirtual 128, 3) := by decide +kernel
theorem dX10_at_25 : decode cX10_at 25 = .ok (.lreturn, 1) := by decide +kernel
theorem dX10_at_26 : decode cX10_at 26 = .ok (.aload_n 0, 1) := by decide +kernel
theorem dX10_at_27 : decode cX10_at 27 = .ok (.getfield 36, 3) := by decide +kernel
theorem dX10_at_30 : decode cX10_at 30 = .ok (.aload_n 0, 1) := by decide +kernel
theorem dX10_at_31 : decode cX10_at 31 = .ok (.getfield 20, 3) := by decide +kernel
theorem dX10_at_34 : decode cX10_at 34 = .ok (.iload_n 1, 1) := by decide +kernel
theorem dX10_at_35 : decode cX10_at 35 = .ok (.iaload, 1) := by decide +kernel
theorem dX10_at_36 : decode cX10_at 36 = .ok (.dup2, 1) := by decide +kernel
theorem dX10_at_37 : decode cX10_at 37 = .ok (.iaload, 1) := by decide +kernel
theorem dX10_at_38 : decode cX10_at 38 = .ok (.iconst 1, 1) := by decide +kernel
theorem dX10_at_39 : decode cX10_at 39 = .ok (.iadd, 1) := by decide +kernel
theorem dX10_at_40 : decode cX10_at 40 = .ok (.iastore, 1) := by decide +kernel
theorem dX10_at_41 : decode cX10_at 41 = .ok (.aload_n 0, 1) := by decide +kernel
theorem dX10_at_42 : decode cX10_at 42 = .ok (.getfield 36, 3) := by decide +kernel
theorem dX10_at_45 : decode cX10_at 45 = .ok (.iconst 2, 1) := by decide +kernel
theorem dX10_at_46 : decode cX10_at 46 = .ok (.dup2, 1) := by decide +kernel
theorem dX10_at_47 : decode cX10_at 47 = .ok (.iaload, 1) := by decide +kernel
theorem dX10_at_48 : decode cX10_at 48 = .ok (.aload_n 0, 1) := by decide +kernel
theorem dX10_at_49 : decode cX10_at 49 = .ok (.getfield 20, 3) := by decide +kernel
theorem dX10_at_52 : decode cX10_at 52 = .ok (.iload_n 1, 1) := by decide +kernel
theorem dX10_at_53 : decode cX10_at 53 = .ok (.iaload, 1) := by decide +kernel
theorem dX10_at_54 : decode cX10_at 54 = .ok (.iconst 1, 1) := by decide +kernel
theorem dX10_at_55 : decode cX10_at 55 = .ok (.if_icmp .ne 7, 3) := by decide +kernel
theorem dX10_at_58 : decode cX10_at 58 = .ok (.iconst 1, 1) := by decide +kernel
theorem dX10_at_59 : decode cX10_at 59 = .ok (.goto 4, 3) := by decide +kernel
theorem dX10_at_62 : decode cX10_at 62 = .ok (.iconst 0, 1) := by decide +kernel
theorem dX10_at_63 : decode cX10_at 63 = .ok (.iadd, 1) := by decide +kernel
theorem dX10_at_64 : decode cX10_at 64 = .ok (.iastore, 1) := by decide +kernel
theorem dX10_at_65 : decode cX10_at 65 = .ok (.aload_n 0, 1) := by decide +kernel
theorem dX10_at_66 : decode cX10_at 66 = .ok (.aload_n 0, 1) := by decide +kernel
theorem dX10_at_67 : decode cX10_at 67 = .ok (.iload_n 1, 1) := by decide +kernel
theorem dX10_at_68 : decode cX10_at 68 = .ok (.iload_n 2, 1) := by decide +kernel
theorem dX10_at_69 : decode cX10_at 69 = .ok (.i2l, 1) := by decide +kernel
theorem dX10_at_70 : decode cX10_at 70 = .ok (.invokevirtual 95, 3) := by decide +kernel
theorem dX10_at_73 : decode cX10_at 73 = .ok (.invokevirtual 132, 3) := by decide +kernel
theorem dX10_at_76 : decode cX10_at 76 = .ok (.lreturn, 1) := by decide +kernel
theorem dX10_isClosed_0 : decode cX10_isClosed 0 = .ok (.aload_n 0, 1) := by decide +kernel
theorem dX10_isClosed_1 : decode cX10_isClosed 1 = .ok (.getfield 7, 3) := by decide +kernel
theorem dX10_isClosed_4 : decode cX10_isClosed 4 = .ok (.iload_n 1, 1) := by decide +kernel
theorem dX10_isClosed_5 : decode cX10_isClosed 5 = .ok (.iaload, 1) := by decide +kernel
theorem dX10_isClosed_6 : decode cX10_isClosed 6 = .ok (.aload_n 0, 1) := by decide +kernel
theorem dX10_isClosed_7 : decode cX10_isClosed 7 = .ok (.getfield 13, 3) := by decide +kernel
theorem dX10_isClosed_10 : decode cX10_isClosed 10 = .ok (.iload_n 1, 1) := by decide +kernel
theorem dX10_isClosed_11 : decode cX10_isClosed 11 = .ok (.iaload, 1) := by decide +kernel
theorem dX10_isClosed_12 : decode cX10_isClosed 12 = .ok (.iadd, 1) := by decide +kernel
theorem dX10_isClosed_13 : decode cX10_isClosed 13 = .ok (.istore_n 2, 1) := by decide +kernel
theorem dX10_isClosed_14 : decode cX10_isClosed 14 = .ok (.aload_n 0, 1) := by decide +kernel
theorem dX10_isClosed_15 : decode cX10_isClosed 15 = .ok (.getfield 23, 3) := by decide +kernel
theorem dX10_isClosed_18 : decode cX10_isClosed 18 = .ok (.sipush 300, 3) := by decide +kernel
theorem dX10_isClosed_21 : decode cX10_isClosed 21 = .ok (.iload_n 1, 1) := by decide +kernel
theorem dX10_isClosed_22 : decode cX10_isClosed 22 = .ok (.imul, 1) := by decide +kernel
theorem dX10_isClosed_23 : decode cX10_isClosed 23 = .ok (.laload, 1) := by decide +kernel
theorem dX10_isClosed_24 : decode cX10_isClosed 24 = .ok (.lconst 0, 1) := by decide +kernel
theorem dX10_isClosed_25 : decode cX10_isClosed 25 = .ok (.lcmp, 1) := by decide +kernel
theorem dX10_isClosed_26 : decode cX10_isClosed 26 = .ok (.ifCond .ne 7, 3) := by decide +kernel
theorem dX10_isClosed_29 : decode cX10_isClosed 29 = .ok (.iconst 1, 1) := by decide +kernel
theorem dX10_isClosed_30 : decode cX10_isClosed 30 = .ok (.goto 4, 3) := by decide +kernel
theorem dX10_isClosed_33 : decode cX10_isClosed 33 = .ok (.iconst 0, 1) := by decide +kernel
theorem dX10_isClosed_34 : decode cX10_isClosed 34 = .ok (.istore_n 3, 1) := by decide +kernel
theorem dX10_isClosed_35 : decode cX10_isClosed 35 = .ok (.iconst 1, 1) := by decide +kernel
theorem dX10_isClosed_36 : decode cX10_isClosed 36 = .ok (.istore 4, 2) := by decide +kernel
theorem dX10_isClosed_38 : decode cX10_isClosed 38 = .ok (.iload 4, 2) := by decide +kernel
theorem dX10_isClosed_40 : decode cX10_isClosed 40 = .ok (.iload_n 2, 1) := by decide +kernel
theorem dX10_isClosed_41 : decode cX10_isClosed 41 = .ok (.if_icmp .ge 81, 3) := by decide +kernel
theorem dX10_isClosed_44 : decode cX10_isClosed 44 = .ok (.iload_n 3, 1) := by decide +kernel
theorem dX10_isClosed_45 : decode cX10_isClosed 45 = .ok (.ifCond .eq 77, 3) := by decide +kernel
theorem dX10_isClosed_48 : decode cX10_isClosed 48 = .ok (.iload 4, 2) := by decide +kernel
theorem dX10_isClosed_50 : decode cX10_isClosed 50 = .ok (.istore 5, 2) := by decide +kernel
theorem dX10_isClosed_52 : decode cX10_isClosed 52 = .ok (.iload 5, 2) := by decide +kernel
theorem dX10_isClosed_54 : decode cX10_isClosed 54 = .ok (.iload_n 2, 1) := by decide +kernel
theorem dX10_isClosed_55 : decode cX10_isClosed 55 = .ok (.if_icmp .ge 61, 3) := by decide +kernel
theorem dX10_isClosed_58 : decode cX10_isClosed 58 = .ok (.iload_n 3, 1) := by decide +kernel
theorem dX10_isClosed_59 : decode cX10_isClosed 59 = .ok (.ifCond .eq 57, 3) := by decide +kernel
theorem dX10_isClosed_62 : decode cX10_isClosed 62 = .ok (.aload_n 0, 1) := by decide +kernel
theorem dX10_isClosed_63 : decode cX10_isClosed 63 = .ok (.iload_n 1, 1) := by decide +kernel
theorem dX10_isClosed_64 : decode cX10_isClosed 64 = .ok (.iload 4, 2) := by decide +kernel
theorem dX10_isClosed_66 : decode cX10_isClosed 66 = .ok (.iload 5, 2) := by decide +kernel
theorem dX10_isClosed_68 : decode cX10_isClosed 68 = .ok (.iadd, 1) := by decide +kernel
theorem dX10_isClosed_69 : decode cX10_isClosed 69 = .ok (.i2l, 1) := by decide +kernel
theorem dX10_isClosed_70 : decode cX10_isClosed 70 = .ok (.invokevirtual 95, 3) := by decide +kernel
theorem dX10_isClosed_73 : decode cX10_isClosed 73 = .ok (.aload_n 0, 1) := by decide +kernel
theorem dX10_isClosed_74 : decode cX10_isClosed 74 = .ok (.getfield 23, 3) := by decide +kernel
theorem dX10_isClosed_77 : decode cX10_isClosed 77 = .ok (.sipush 300, 3) := by decide +kernel
theorem dX10_isClosed_80 : decode cX10_isClosed 80 = .ok (.iload_n 1, 1) := by decide +kernel
theorem dX10_isClosed_81 : decode cX10_isClosed 81 = .ok (.imul, 1) := by decide +kernel
theorem dX10_isClosed_82 : decode cX10_isClosed 82 = .ok (.iload 4, 2) := by decide +kernel
theorem dX10_isClosed_84 : decode cX10_isClosed 84 = .ok (.iadd, 1) := by decide +kernel
theorem dX10_isClosed_85 : decode cX10_isClosed 85 = .ok (.laload, 1) := by decide +kernel
theorem dX10_isClosed_86 : decode cX10_isClosed 86 = .ok (.aload_n 0, 1) := by decide +kernel
theorem dX10_isClosed_87 : decode cX10_isClosed 87 = .ok (.getfield 23, 3) := by decide +kernel
theorem dX10_isClosed_90 : decode cX10_isClosed 90 = .ok (.sipush 300, 3) := by decide +kernel
theorem dX10_isClosed_93 : decode cX10_isClosed 93 = .ok (.iload_n 1, 1) := by decide +kernel
theorem dX10_isClosed_94 : decode cX10_isClosed 94 = .ok (.imul, 1) := by decide +kernel
theorem dX10_isClosed_95 : decode cX10_isClosed 95 = .ok (.iload 5, 2) := by decide +kernel
theorem dX10_isClosed_97 : decode cX10_isClosed 97 = .ok (.iadd, 1) := by decide +kernel
theorem dX10_isClosed_98 : decode cX10_isClosed 98 = .ok (.laload, 1) := by decide +kernel
theorem dX10_isClosed_99 : decode cX10_isClosed 99 = .ok (.ladd, 1) := by decide +kernel
theorem dX10_isClosed_100 : decode cX10_isClosed 100 = .ok (.lcmp, 1) := by decide +kernel
theorem dX10_isClosed_101 : decode cX10_isClosed 101 = .ok (.ifCond .gt 7, 3) := by decide +kernel
theorem dX10_isClosed_104 : decode cX10_isClosed 104 = .ok (.iconst 1, 1) := by decide +kernel
theorem dX10_isClosed_105 : decode cX10_isClosed 105 = .ok (.goto 4, 3) := by decide +kernel
theorem dX10_isClosed_108 : decode cX10_isClosed 108 = .ok (.iconst 0, 1) := by decide +kernel
theorem dX10_isClosed_109 : decode cX10_isClosed 109 = .ok (.istore_n 3, 1) := by decide +kernel
theorem dX10_isClosed_110 : decode cX10_isClosed 110 = .ok (.iinc 5 1, 3) := by decide +kernel
theorem dX10_isClosed_113 : decode cX10_isClosed 113 = .ok (.goto (-61), 3) := by decide +kernel
theorem dX10_isClosed_116 : decode cX10_isClosed 116 = .ok (.iinc 4 1, 3) := by decide +kernel
theorem dX10_isClosed_119 : decode cX10_isClosed 119 = .ok (.goto (-81), 3) := by decide +kernel
theorem dX10_isClosed_122 : decode cX10_isClosed 122 = .ok (.iload_n 3, 1) := by decide +kernel
theorem dX10_isClosed_123 : decode cX10_isClosed 123 = .ok (.ireturn, 1) := by decide +kernel
theorem dX10_about_0 : decode cX10_about 0 = .ok (.aload_n 0, 1) := by decide +kernel
theorem dX10_about_1 : decode cX10_about 1 = .ok (.iload_n 1, 1) := by decide +kernel
theorem dX10_about_2 : decode cX10_about 2 = .ok (.invokevirtual 109, 3) := by decide +kernel
theorem dX10_about_5 : decode cX10_about 5 = .ok (.ifCond .eq 15, 3) := by decide +kernel
theorem dX10_about_8 : decode cX10_about 8 = .ok (.iload_n 2, 1) := by decide +kernel
theorem dX10_about_9 : decode cX10_about 9 = .ok (.i2l, 1) := by decide +kernel
theorem dX10_about_10 : decode cX10_about 10 = .ok (.lconst 0, 1) := by decide +kernel
theorem dX10_about_11 : decode cX10_about 11 = .ok (.ldc2_w 136, 3) := by decide +kernel
theorem dX10_about_14 : decode cX10_about 14 = .ok (.invokestatic 50, 3) := by decide +kernel
theorem dX10_about_17 : decode cX10_about 17 = .ok (.ifCond .ne 9, 3) := by decide +kernel
theorem dX10_about_20 : decode cX10_about 20 = .ok (.aload_n 0, 1) := by decide +kernel
theorem dX10_about_21 : decode cX10_about 21 = .ok (.iconst (-1), 1) := by decide +kernel
theorem dX10_about_22 : decode cX10_about 22 = .ok (.invokevirtual 58, 3) := by decide +kernel
theorem dX10_about_25 : decode cX10_about 25 = .ok (.ireturn, 1) := by decide +kernel
theorem dX10_about_26 : decode cX10_about 26 = .ok (.aload_n 0, 1) := by decide +kernel
theorem dX10_about_27 : decode cX10_about 27 = .ok (.iload_n 2, 1) := by decide +kernel
theorem dX10_about_28 : decode cX10_about 28 = .ok (.ifCond .ne 12, 3) := by decide +kernel
theorem dX10_about_31 : decode cX10_about 31 = .ok (.aload_n 0, 1) := by decide +kernel
theorem dX10_about_32 : decode cX10_about 32 = .ok (.getfield 7, 3) := by decide +kernel
theorem dX10_about_35 : decode cX10_about 35 = .ok (.iload_n 1, 1) := by decide +kernel
theorem dX10_about_36 : decode cX10_about 36 = .ok (.iaload, 1) := by decide +kernel
theorem dX10_about_37 : decode cX10_about 37 = .ok (.goto 59, 3) := by decide +kernel
theorem dX10_about_40 : decode cX10_about 40 = .ok (.iload_n 2, 1) := by decide +kernel
theorem dX10_about_41 : decode cX10_about 41 = .ok (.iconst 1, 1) := by decide +kernel
theorem dX10_about_42 : decode cX10_about 42 = .ok (.if_icmp .ne 12, 3) := by decide +kernel
theorem dX10_about_45 : decode cX10_about 45 = .ok (.aload_n 0, 1) := by decide +kernel
theorem dX10_about_46 : decode cX10_about 46 = .ok (.getfield 13, 3) := by decide +kernel
theorem dX10_about_49 : decode cX10_about 49 = .ok (.iload_n 1, 1) := by decide +kernel
theorem dX10_about_50 : decode cX10_about 50 = .ok (.iaload, 1) := by decide +kernel
theorem dX10_about_51 : decode cX10_about 51 = .ok (.goto 45, 3) := by decide +kernel
theorem dX10_about_54 : decode cX10_about 54 = .ok (.iload_n 2, 1) := by decide +kernel
theorem dX10_about_55 : decode cX10_about 55 = .ok (.iconst 2, 1) := by decide +kernel
theorem dX10_about_56 : decode cX10_about 56 = .ok (.if_icmp .ne 13, 3) := by decide +kernel
theorem dX10_about_59 : decode cX10_about 59 = .ok (.aload_n 0, 1) := by decide +kernel
theorem dX10_about_60 : decode cX10_about 60 = .ok (.getfield 16, 3) := by decide +kernel
theorem dX10_about_63 : decode cX10_about 63 = .ok (.iload_n 1, 1) := by decide +kernel
theorem dX10_about_64 : decode cX10_about 64 = .ok (.laload, 1) := by decide +kernel
theorem dX10_about_65 : decode cX10_about 65 = .ok (.l2i, 1) := by decide +kernel
theorem dX10_about_66 : decode cX10_about 66 = .ok (.goto 30, 3) := by decide +kernel
theorem dX10_about_69 : decode cX10_about 69 = .ok (.iload_n 2, 1) := by decide +kernel
theorem dX10_about_70 : decode cX10_about 70 = .ok (.iconst 3, 1) := by decide +kernel
theorem dX10_about_71 : decode cX10_about 71 = .ok (.if_icmp .ne 12, 3) := by decide +kernel
theorem dX10_about_74 : decode cX10_about 74 = .ok (.aload_n 0, 1) := by decide +kernel
theorem dX10_about_75 : decode cX10_about 75 = .ok (.getfield 20, 3) := by decide +kernel
theorem dX10_about_78 : decode cX10_about 78 = .ok (.iload_n 1, 1) := by decide +kernel
theorem dX10_about_79 : decode cX10_about 79 = .ok (.iaload, 1) := by decide +kernel
theorem dX10_about_80 : decode cX10_about 80 = .ok (.goto 16, 3) := by decide +kernel
theorem dX10_about_83 : decode cX10_about 83 = .ok (.aload_n 0, 1) := by decide +kernel
theorem dX10_about_84 : decode cX10_about 84 = .ok (.iload_n 1, 1) := by decide +kernel
theorem dX10_about_85 : decode cX10_about 85 = .ok (.invokevirtual 138, 3) := by decide +kernel
theorem dX10_about_88 : decode cX10_about 88 = .ok (.ifCond .eq 7, 3) := by decide +kernel
theorem dX10_about_91 : decode cX10_about 91 = .ok (.iconst 1, 1) := by decide +kernel
theorem dX10_about_92 : decode cX10_about 92 = .ok (.goto 4, 3) := by decide +kernel
theorem dX10_about_95 : decode cX10_about 95 = .ok (.iconst 0, 1) := by decide +kernel
theorem dX10_about_96 : decode cX10_about 96 = .ok (.invokevirtual 73, 3) := by decide +kernel
theorem dX10_about_99 : decode cX10_about 99 = .ok (.ireturn, 1) := by decide +kernel
theorem dX10_rate_0 : decode cX10_rate 0 = .ok (.aload_n 0, 1) := by decide +kernel
theorem dX10_rate_1 : decode cX10_rate 1 = .ok (.iload_n 1, 1) := by decide +kernel
theorem dX10_rate_2 : decode cX10_rate 2 = .ok (.invokevirtual 109, 3) := by decide +kernel
theorem dX10_rate_5 : decode cX10_rate 5 = .ok (.ifCond .eq 13, 3) := by decide +kernel
theorem dX10_rate_8 : decode cX10_rate 8 = .ok (.iload_n 2, 1) := by decide +kernel
theorem dX10_rate_9 : decode cX10_rate 9 = .ok (.i2l, 1) := by decide +kernel
theorem dX10_rate_10 : decode cX10_rate 10 = .ok (.lconst 0, 1) := by decide +kernel
theorem dX10_rate_11 : decode cX10_rate 11 = .ok (.lconst 1, 1) := by decide +kernel
theorem dX10_rate_12 : decode cX10_rate 12 = .ok (.invokestatic 50, 3) := by decide +kernel
theorem dX10_rate_15 : decode cX10_rate 15 = .ok (.ifCond .ne 9, 3) := by decide +kernel
theorem dX10_rate_18 : decode cX10_rate 18 = .ok (.aload_n 0, 1) := by decide +kernel
theorem dX10_rate_19 : decode cX10_rate 19 = .ok (.iconst (-1), 1) := by decide +kernel
theorem dX10_rate_20 : decode cX10_rate 20 = .ok (.invokevirtual 58, 3) := by decide +kernel
theorem dX10_rate_23 : decode cX10_rate 23 = .ok (.ireturn, 1) := by decide +kernel
theorem dX10_rate_24 : decode cX10_rate 24 = .ok (.aload_n 0, 1) := by decide +kernel
theorem dX10_rate_25 : decode cX10_rate 25 = .ok (.getfield 16, 3) := by decide +kernel
theorem dX10_rate_28 : decode cX10_rate 28 = .ok (.iload_n 1, 1) := by decide +kernel
theorem dX10_rate_29 : decode cX10_rate 29 = .ok (.laload, 1) := by decide +kernel
theorem dX10_rate_30 : decode cX10_rate 30 = .ok (.l2i, 1) := by decide +kernel
theorem dX10_rate_31 : decode cX10_rate 31 = .ok (.aload_n 0, 1) := by decide +kernel
theorem dX10_rate_32 : decode cX10_rate 32 = .ok (.getfield 13, 3) := by decide +kernel
theorem dX10_rate_35 : decode cX10_rate 35 = .ok (.iload_n 1, 1) := by decide +kernel
theorem dX10_rate_36 : decode cX10_rate 36 = .ok (.iaload, 1) := by decide +kernel
theorem dX10_rate_37 : decode cX10_rate 37 = .ok (.invokestatic 91, 3) := by decide +kernel
theorem dX10_rate_40 : decode cX10_rate 40 = .ok (.istore_n 3, 1) := by decide +kernel
theorem dX10_rate_41 : decode cX10_rate 41 = .ok (.aload_n 0, 1) := by decide +kernel
theorem dX10_rate_42 : decode cX10_rate 42 = .ok (.iload_n 2, 1) := by decide +kernel
theorem dX10_rate_43 : decode cX10_rate 43 = .ok (.ifCond .ne 15, 3) := by decide +kernel
theorem dX10_rate_46 : decode cX10_rate 46 = .ok (.aload_n 0, 1) := by decide +kernel
theorem dX10_rate_47 : decode cX10_rate 47 = .ok (.getfield 16, 3) := by decide +kernel
theorem dX10_rate_50 : decode cX10_rate 50 = .ok (.iload_n 1, 1) := by decide +kernel
theorem dX10_rate_51 : decode cX10_rate 51 = .ok (.laload, 1) := by decide +kernel
theorem dX10_rate_52 : decode cX10_rate 52 = .ok (.l2i, 1) := by decide +kernel
theorem dX10_rate_53 : decode cX10_rate 53 = .ok (.iload_n 3, 1) := by decide +kernel
theorem dX10_rate_54 : decode cX10_rate 54 = .ok (.idiv, 1) := by decide +kernel
theorem dX10_rate_55 : decode cX10_rate 55 = .ok (.goto 11, 3) := by decide +kernel
theorem dX10_rate_58 : decode cX10_rate 58 = .ok (.aload_n 0, 1) := by decide +kernel
theorem dX10_rate_59 : decode cX10_rate 59 = .ok (.getfield 13, 3) := by decide +kernel
theorem dX10_rate_62 : decode cX10_rate 62 = .ok (.iload_n 1, 1) := by decide +kernel
theorem dX10_rate_63 : decode cX10_rate 63 = .ok (.iaload, 1) := by decide +kernel
theorem dX10_rate_64 : decode cX10_rate 64 = .ok (.iload_n 3, 1) := by decide +kernel
theorem dX10_rate_65 : decode cX10_rate 65 = .ok (.idiv, 1) := by decide +kernel
theorem dX10_rate_66 : decode cX10_rate 66 = .ok (.invokevirtual 73, 3) := by decide +kernel
theorem dX10_rate_69 : decode cX10_rate 69 = .ok (.ireturn, 1) := by decide +kernel
theorem dX10_latest_0 : decode cX10_latest 0 = .ok (.aload_n 0, 1) := by decide +kernel
theorem dX10_latest_1 : decode cX10_latest 1 = .ok (.getfield 7, 3) := by decide +kernel
theorem dX10_latest_4 : decode cX10_latest 4 = .ok (.iload_n 1, 1) := by decide +kernel
theorem dX10_latest_5 : decode cX10_latest 5 = .ok (.iaload, 1) := by decide +kernel
theorem dX10_latest_6 : decode cX10_latest 6 = .ok (.aload_n 0, 1) := by decide +kernel
theorem dX10_latest_7 : decode cX10_latest 7 = .ok (.getfield 7, 3) := by decide +kernel
theorem dX10_latest_10 : decode cX10_latest 10 = .ok (.iload_n 2, 1) := by decide +kernel
theorem dX10_latest_11 : decode cX10_latest 11 = .ok (.iaload, 1) := by decide +kernel
theorem dX10_latest_12 : decode cX10_latest 12 = .ok (.if_icmp .le 12, 3) := by decide +kernel
theorem dX10_latest_15 : decode cX10_latest 15 = .ok (.aload_n 0, 1) := by decide +kernel
theorem dX10_latest_16 : decode cX10_latest 16 = .ok (.getfield 7, 3) := by decide +kernel
theorem dX10_latest_19 : decode cX10_latest 19 = .ok (.iload_n 1, 1) := by decide +kernel
theorem dX10_latest_20 : decode cX10_latest 20 = .ok (.iaload, 1) := by decide +kernel
theorem dX10_latest_21 : decode cX10_latest 21 = .ok (.goto 9, 3) := by decide +kernel
theorem dX10_latest_24 : decode cX10_latest 24 = .ok (.aload_n 0, 1) := by decide +kernel
theorem dX10_latest_25 : decode cX10_latest 25 = .ok (.getfield 7, 3) := by decide +kernel
theorem dX10_latest_28 : decode cX10_latest 28 = .ok (.iload_n 2, 1) := by decide +kernel
theorem dX10_latest_29 : decode cX10_latest 29 = .ok (.iaload, 1) := by decide +kernel
theorem dX10_latest_30 : decode cX10_latest 30 = .ok (.ireturn, 1) := by decide +kernel
theorem dX10_unlike_0 : decode cX10_unlike 0 = .ok (.aload_n 0, 1) := by decide +kernel
theorem dX10_unlike_1 : decode cX10_unlike 1 = .ok (.iload_n 1, 1) := by decide +kernel
theorem dX10_unlike_2 : decode cX10_unlike 2 = .ok (.invokevirtual 109, 3) := by decide +kernel
theorem dX10_unlike_5 : decode cX10_unlike 5 = .ok (.ifCond .eq 11, 3) := by decide +kernel
theorem dX10_unlike_8 : decode cX10_unlike 8 = .ok (.aload_n 0, 1) := by decide +kernel
theorem dX10_unlike_9 : decode cX10_unlike 9 = .ok (.iload_n 2, 1) := by decide +kernel
theorem dX10_unlike_10 : decode cX10_unlike 10 = .ok (.invokevirtual 109, 3) := by decide +kernel
theorem dX10_unlike_13 : decode cX10_unlike 13 = .ok (.ifCond .ne 11, 3) := by decide +kernel
theorem dX10_unlike_16 : decode cX10_unlike 16 = .ok (.aload_n 0, 1) := by decide +kernel
theorem dX10_unlike_17 : decode cX10_unlike 17 = .ok (.iconst (-1), 1) := by decide +kernel
theorem dX10_unlike_18 : decode cX10_unlike 18 = .ok (.putfield 42, 3) := by decide +kernel
theorem dX10_unlike_21 : decode cX10_unlike 21 = .ok (.bipush (-2), 2) := by decide +kernel
theorem dX10_unlike_23 : decode cX10_unlike 23 = .ok (.ireturn, 1) := by decide +kernel
theorem dX10_unlike_24 : decode cX10_unlike 24 = .ok (.aload_n 0, 1) := by decide +kernel
theorem dX10_unlike_25 : decode cX10_unlike 25 = .ok (.iload_n 1, 1) := by decide +kernel
theorem dX10_unlike_26 : decode cX10_unlike 26 = .ok (.iload_n 2, 1) := by decide +kernel
theorem dX10_unlike_27 : decode cX10_unlike 27 = .ok (.invokevirtual 113, 3) := by decide +kernel
theorem dX10_unlike_30 : decode cX10_unlike 30 = .ok (.istore_n 3, 1) := by decide +kernel
theorem dX10_unlike_31 : decode cX10_unlike 31 = .ok (.iload_n 3, 1) := by decide +kernel
theorem dX10_unlike_32 : decode cX10_unlike 32 = .ok (.bipush 60, 2) := by decide +kernel
theorem dX10_unlike_34 : decode cX10_unlike 34 = .ok (.if_icmp .le 12, 3) := by decide +kernel
theorem dX10_unlike_37 : decode cX10_unlike 37 = .ok (.aload_n 0, 1) := by decide +kernel
theorem dX10_unlike_38 : decode cX10_unlike 38 = .ok (.bipush (-4), 2) := by decide +kernel
theorem dX10_unlike_40 : decode cX10_unlike 40 = .ok (.putfield 42, 3) := by decide +kernel
theorem dX10_unlike_43 : decode cX10_unlike 43 = .ok (.bipush (-2), 2) := by decide +kernel
theorem dX10_unlike_45 : decode cX10_unlike 45 = .ok (.ireturn, 1) := by decide +kernel
theorem dX10_unlike_46 : decode cX10_unlike 46 = .ok (.aload_n 0, 1) := by decide +kernel
theorem dX10_unlike_47 : decode cX10_unlike 47 = .ok (.iload_n 1, 1) := by decide +kernel
theorem dX10_unlike_48 : decode cX10_unlike 48 = .ok (.iload_n 2, 1) := by decide +kernel
theorem dX10_unlike_49 : decode cX10_unlike 49 = .ok (.invokevirtual 141, 3) := by decide +kernel
theorem dX10_unlike_52 : decode cX10_unlike 52 = .ok (.iconst 2, 1) := by decide +kernel
theorem dX10_unlike_53 : decode cX10_unlike 53 = .ok (.iload_n 3, 1) := by decide +kernel
theorem dX10_unlike_54 : decode cX10_unlike 54 = .ok (.imul, 1) := by decide +kernel
theorem dX10_unlike_55 : decode cX10_unlike 55 = .ok (.iadd, 1) := by decide +kernel
theorem dX10_unlike_56 : decode cX10_unlike 56 = .ok (.istore 4, 2) := by decide +kernel
theorem dX10_unlike_58 : decode cX10_unlike 58 = .ok (.iconst 0, 1) := by decide +kernel
theorem dX10_unlike_59 : decode cX10_unlike 59 = .ok (.istore 5, 2) := by decide +kernel
theorem dX10_unlike_61 : decode cX10_unlike 61 = .ok (.iload 5, 2) := by decide +kernel
theorem dX10_unlike_63 : decode cX10_unlike 63 = .ok (.iload 4, 2) := by decide +kernel
theorem dX10_unlike_65 : decode cX10_unlike 65 = .ok (.if_icmp .ge 36, 3) := by decide +kernel
theorem dX10_unlike_68 : decode cX10_unlike 68 = .ok (.aload_n 0, 1) := by decide +kernel
theorem dX10_unlike_69 : decode cX10_unlike 69 = .ok (.iload_n 1, 1) := by decide +kernel
theorem dX10_unlike_70 : decode cX10_unlike 70 = .ok (.iload 5, 2) := by decide +kernel
theorem dX10_unlike_72 : decode cX10_unlike 72 = .ok (.i2l, 1) := by decide +kernel
theorem dX10_unlike_73 : decode cX10_unlike 73 = .ok (.invokevirtual 95, 3) := by decide +kernel
theorem dX10_unlike_76 : decode cX10_unlike 76 = .ok (.aload_n 0, 1) := by decide +kernel
theorem dX10_unlike_77 : decode cX10_unlike 77 = .ok (.iload_n 2, 1) := by decide +kernel
theorem dX10_unlike_78 : decode cX10_unlike 78 = .ok (.iload 5, 2) := by decide +kernel
theorem dX10_unlike_80 : decode cX10_unlike 80 = .ok (.i2l, 1) := by decide +kernel
theorem dX10_unlike_81 : decode cX10_unlike 81 = .ok (.invokevirtual 95, 3) := by decide +kernel
theorem dX10_unlike_84 : decode cX10_unlike 84 = .ok (.lcmp, 1) := by decide +kernel
theorem dX10_unlike_85 : decode cX10_unlike 85 = .ok (.ifCond .eq 10, 3) := by decide +kernel
theorem dX10_unlike_88 : decode cX10_unlike 88 = .ok (.aload_n 0, 1) := by decide +kernel
theorem dX10_unlike_89 : decode cX10_unlike 89 = .ok (.iload 5, 2) := by decide +kernel
theorem dX10_unlike_91 : decode cX10_unlike 91 = .ok (.invokevirtual 73, 3) := by decide +kernel
theorem dX10_unlike_94 : decode cX10_unlike 94 = .ok (.ireturn, 1) := by decide +kernel
theorem dX10_unlike_95 : decode cX10_unlike 95 = .ok (.iinc 5 1, 3) := by decide +kernel
theorem dX10_unlike_98 : decode cX10_unlike 98 = .ok (.goto (-37), 3) := by decide +kernel
theorem dX10_unlike_101 : decode cX10_unlike 101 = .ok (.aload_n 0, 1) := by decide +kernel
theorem dX10_unlike_102 : decode cX10_unlike 102 = .ok (.iconst (-1), 1) := by decide +kernel
theorem dX10_unlike_103 : decode cX10_unlike 103 = .ok (.invokevirtual 73, 3) := by decide +kernel
theorem dX10_unlike_106 : decode cX10_unlike 106 = .ok (.ireturn, 1) := by decide +kernel
theorem dX10_below_0 : decode cX10_below 0 = .ok (.aload_n 0, 1) := by decide +kernel
theorem dX10_below_1 : decode cX10_below 1 = .ok (.iload_n 1, 1) := by decide +kernel
theorem dX10_below_2 : decode cX10_below 2 = .ok (.invokevirtual 109, 3) := by decide +kernel
theorem dX10_below_5 : decode cX10_below 5 = .ok (.ifCond .eq 11, 3) := by decide +kernel
theorem dX10_below_8 : decode cX10_below 8 = .ok (.aload_n 0, 1) := by decide +kernel
theorem dX10_below_9 : decode cX10_below 9 = .ok (.iload_n 2, 1) := by decide +kernel
theorem dX10_below_10 : decode cX10_below 10 = .ok (.invokevirtual 109, 3) := by decide +kernel
theorem dX10_below_13 : decode cX10_below 13 = .ok (.ifCond .ne 9, 3) := by decide +kernel
theorem dX10_below_16 : decode cX10_below 16 = .ok (.aload_n 0, 1) := by decide +kernel
theorem dX10_below_17 : decode cX10_below 17 = .ok (.iconst (-1), 1) := by decide +kernel
theorem dX10_below_18 : decode cX10_below 18 = .ok (.invokevirtual 58, 3) := by decide +kernel
theorem dX10_below_21 : decode cX10_below 21 = .ok (.ireturn, 1) := by decide +kernel
theorem dX10_below_22 : decode cX10_below 22 = .ok (.aload_n 0, 1) := by decide +kernel
theorem dX10_below_23 : decode cX10_below 23 = .ok (.iload_n 1, 1) := by decide +kernel
theorem dX10_below_24 : decode cX10_below 24 = .ok (.iload_n 2, 1) := by decide +kernel
theorem dX10_below_25 : decode cX10_below 25 = .ok (.invokevirtual 113, 3) := by decide +kernel
theorem dX10_below_28 : decode cX10_below 28 = .ok (.istore_n 3, 1) := by decide +kernel
theorem dX10_below_29 : decode cX10_below 29 = .ok (.iload_n 3, 1) := by decide +kernel
theorem dX10_below_30 : decode cX10_below 30 = .ok (.bipush 60, 2) := by decide +kernel
theorem dX10_below_32 : decode cX10_below 32 = .ok (.if_icmp .le 10, 3) := by decide +kernel
theorem dX10_below_35 : decode cX10_below 35 = .ok (.aload_n 0, 1) := by decide +kernel
theorem dX10_below_36 : decode cX10_below 36 = .ok (.bipush (-4), 2) := by decide +kernel
theorem dX10_below_38 : decode cX10_below 38 = .ok (.invokevirtual 58, 3) := by decide +kernel
theorem dX10_below_41 : decode cX10_below 41 = .ok (.ireturn, 1) := by decide +kernel
theorem dX10_below_42 : decode cX10_below 42 = .ok (.aload_n 0, 1) := by decide +kernel
theorem dX10_below_43 : decode cX10_below 43 = .ok (.iload_n 1, 1) := by decide +kernel
theorem dX10_below_44 : decode cX10_below 44 = .ok (.iload_n 3, 1) := by decide +kernel
theorem dX10_below_45 : decode cX10_below 45 = .ok (.invokevirtual 116, 3) := by decide +kernel
theorem dX10_below_48 : decode cX10_below 48 = .ok (.aload_n 0, 1) := by decide +kernel
theorem dX10_below_49 : decode cX10_below 49 = .ok (.iload_n 2, 1) := by decide +kernel
theorem dX10_below_50 : decode cX10_below 50 = .ok (.iload_n 3, 1) := by decide +kernel
theorem dX10_below_51 : decode cX10_below 51 = .ok (.invokevirtual 116, 3) := by decide +kernel
theorem dX10_below_54 : decode cX10_below 54 = .ok (.lcmp, 1) := by decide +kernel
theorem dX10_below_55 : decode cX10_below 55 = .ok (.ifCond .gt 7, 3) := by decide +kernel
theorem dX10_below_58 : decode cX10_below 58 = .ok (.iconst 1, 1) := by decide +kernel
theorem dX10_below_59 : decode cX10_below 59 = .ok (.goto 4, 3) := by decide +kernel
theorem dX10_below_62 : decode cX10_below 62 = .ok (.iconst 0, 1) := by decide +kernel
theorem dX10_below_63 : decode cX10_below 63 = .ok (.istore 4, 2) := by decide +kernel
theorem dX10_below_65 : decode cX10_below 65 = .ok (.iconst 0, 1) := by decide +kernel
theorem dX10_below_66 : decode cX10_below 66 = .ok (.istore 5, 2) := by decide +kernel
theorem dX10_below_68 : decode cX10_below 68 = .ok (.iload 5, 2) := by decide +kernel
theorem dX10_below_70 : decode cX10_below 70 = .ok (.aload_n 0, 1) := by decide +kernel
theorem dX10_below_71 : decode cX10_below 71 = .ok (.iload_n 1, 1) := by decide +kernel
theorem dX10_below_72 : decode cX10_below 72 = .ok (.iload_n 2, 1) := by decide +kernel
theorem dX10_below_73 : decode cX10_below 73 = .ok (.invokevirtual 141, 3) := by decide +kernel
theorem dX10_below_76 : decode cX10_below 76 = .ok (.iload_n 3, 1) := by decide +kernel
theorem dX10_below_77 : decode cX10_below 77 = .ok (.iadd, 1) := by decide +kernel
theorem dX10_below_78 : decode cX10_below 78 = .ok (.if_icmp .ge 41, 3) := by decide +kernel
theorem dX10_below_81 : decode cX10_below 81 = .ok (.iload 4, 2) := by decide +kernel
theorem dX10_below_83 : decode cX10_below 83 = .ok (.ifCond .eq 36, 3) := by decide +kernel
theorem dX10_below_86 : decode cX10_below 86 = .ok (.aload_n 0, 1) := by decide +kernel
theorem dX10_below_87 : decode cX10_below 87 = .ok (.iload_n 1, 1) := by decide +kernel
theorem dX10_below_88 : decode cX10_below 88 = .ok (.iload 5, 2) := by decide +kernel
theorem dX10_below_90 : decode cX10_below 90 = .ok (.i2l, 1) := by decide +kernel
theorem dX10_below_91 : decode cX10_below 91 = .ok (.invokevirtual 95, 3) := by decide +kernel
theorem dX10_below_94 : decode cX10_below 94 = .ok (.aload_n 0, 1) := by decide +kernel
theorem dX10_below_95 : decode cX10_below 95 = .ok (.iload_n 2, 1) := by decide +kernel
theorem dX10_below_96 : decode cX10_below 96 = .ok (.iload 5, 2) := by decide +kernel
theorem dX10_below_98 : decode cX10_below 98 = .ok (.i2l, 1) := by decide +kernel
theorem dX10_below_99 : decode cX10_below 99 = .ok (.invokevirtual 95, 3) := by decide +kernel
theorem dX10_below_102 : decode cX10_below 102 = .ok (.lcmp, 1) := by decide +kernel
theorem dX10_below_103 : decode cX10_below 103 = .ok (.ifCond .gt 7, 3) := by decide +kernel
theorem dX10_below_106 : decode cX10_below 106 = .ok (.iconst 1, 1) := by decide +kernel
theorem dX10_below_107 : decode cX10_below 107 = .ok (.goto 4, 3) := by decide +kernel
theorem dX10_below_110 : decode cX10_below 110 = .ok (.iconst 0, 1) := by decide +kernel
theorem dX10_below_111 : decode cX10_below 111 = .ok (.istore 4, 2) := by decide +kernel
theorem dX10_below_113 : decode cX10_below 113 = .ok (.iinc 5 1, 3) := by decide +kernel
theorem dX10_below_116 : decode cX10_below 116 = .ok (.goto (-48), 3) := by decide +kernel
theorem dX10_below_119 : decode cX10_below 119 = .ok (.aload_n 0, 1) := by decide +kernel
theorem dX10_below_120 : decode cX10_below 120 = .ok (.iload 4, 2) := by decide +kernel
theorem dX10_below_122 : decode cX10_below 122 = .ok (.ifCond .eq 7, 3) := by decide +kernel
theorem dX10_below_125 : decode cX10_below 125 = .ok (.iconst 1, 1) := by decide +kernel
theorem dX10_below_126 : decode cX10_below 126 = .ok (.goto 4, 3) := by decide +kernel
theorem dX10_below_129 : decode cX10_below 129 = .ok (.iconst 0, 1) := by decide +kernel
theorem dX10_below_130 : decode cX10_below 130 = .ok (.invokevirtual 73, 3) := by decide +kernel
theorem dX10_below_133 : decode cX10_below 133 = .ok (.ireturn, 1) := by decide +kernel
theorem dX10_spanOf_0 : decode cX10_spanOf 0 = .ok (.aload_n 0, 1) := by decide +kernel
theorem dX10_spanOf_1 : decode cX10_spanOf 1 = .ok (.getfield 7, 3) := by decide +kernel
theorem dX10_spanOf_4 : decode cX10_spanOf 4 = .ok (.iload_n 1, 1) := by decide +kernel
theorem dX10_spanOf_5 : decode cX10_spanOf 5 = .ok (.iaload, 1) := by decide +kernel
theorem dX10_spanOf_6 : decode cX10_spanOf 6 = .ok (.aload_n 0, 1) := by decide +kernel
theorem dX10_spanOf_7 : decode cX10_spanOf 7 = .ok (.getfield 13, 3) := by decide +kernel
theorem dX10_spanOf_10 : decode cX10_spanOf 10 = .ok (.iload_n 1, 1) := by decide +kernel
theorem dX10_spanOf_11 : decode cX10_spanOf 11 = .ok (.iaload, 1) := by decide +kernel
theorem dX10_spanOf_12 : decode cX10_spanOf 12 = .ok (.iadd, 1) := by decide +kernel
theorem dX10_spanOf_13 : decode cX10_spanOf 13 = .ok (.istore 4, 2) := by decide +kernel
theorem dX10_spanOf_15 : decode cX10_spanOf 15 = .ok (.iconst 0, 1) := by decide +kernel
theorem dX10_spanOf_16 : decode cX10_spanOf 16 = .ok (.istore 5, 2) := by decide +kernel
theorem dX10_spanOf_18 : decode cX10_spanOf 18 = .ok (.iload 5, 2) := by decide +kernel
theorem dX10_spanOf_20 : decode cX10_spanOf 20 = .ok (.iload 4, 2) := by decide +kernel
theorem dX10_spanOf_22 : decode cX10_spanOf 22 = .ok (.if_icmp .ge 31, 3) := by decide +kernel
theorem dX10_spanOf_25 : decode cX10_spanOf 25 = .ok (.aload_n 0, 1) := by decide +kernel
theorem dX10_spanOf_26 : decode cX10_spanOf 26 = .ok (.getfield 23, 3) := by decide +kernel
theorem dX10_spanOf_29 : decode cX10_spanOf 29 = .ok (.sipush 300, 3) := by decide +kernel
theorem dX10_spanOf_32 : decode cX10_spanOf 32 = .ok (.iload_n 1, 1) := by decide +kernel
theorem dX10_spanOf_33 : decode cX10_spanOf 33 = .ok (.imul, 1) := by decide +kernel
theorem dX10_spanOf_34 : decode cX10_spanOf 34 = .ok (.iload 5, 2) := by decide +kernel
theorem dX10_spanOf_36 : decode cX10_spanOf 36 = .ok (.iadd, 1) := by decide +kernel
theorem dX10_spanOf_37 : decode cX10_spanOf 37 = .ok (.laload, 1) := by decide +kernel
theorem dX10_spanOf_38 : decode cX10_spanOf 38 = .ok (.lload_n 2, 1) := by decide +kernel
theorem dX10_spanOf_39 : decode cX10_spanOf 39 = .ok (.lcmp, 1) := by decide +kernel
theorem dX10_spanOf_40 : decode cX10_spanOf 40 = .ok (.ifCond .lt 7, 3) := by decide +kernel
theorem dX10_spanOf_43 : decode cX10_spanOf 43 = .ok (.iload 5, 2) := by decide +kernel
theorem dX10_spanOf_45 : decode cX10_spanOf 45 = .ok (.i2l, 1) := by decide +kernel
theorem dX10_spanOf_46 : decode cX10_spanOf 46 = .ok (.lreturn, 1) := by decide +kernel
theorem dX10_spanOf_47 : decode cX10_spanOf 47 = .ok (.iinc 5 1, 3) := by decide +kernel
theorem dX10_spanOf_50 : decode cX10_spanOf 50 = .ok (.goto (-32), 3) := by decide +kernel
theorem dX10_spanOf_53 : decode cX10_spanOf 53 = .ok (.aload_n 0, 1) := by decide +kernel
theorem dX10_spanOf_54 : decode cX10_spanOf 54 = .ok (.getfield 16, 3) := by decide +kernel
theorem dX10_spanOf_57 : decode cX10_spanOf 57 = .ok (.iload_n 1, 1) := by decide +kernel
theorem dX10_spanOf_58 : decode cX10_spanOf 58 = .ok (.laload, 1) := by decide +kernel
theorem dX10_spanOf_59 : decode cX10_spanOf 59 = .ok (.lconst 0, 1) := by decide +kernel
theorem dX10_spanOf_60 : decode cX10_spanOf 60 = .ok (.lcmp, 1) := by decide +kernel
theorem dX10_spanOf_61 : decode cX10_spanOf 61 = .ok (.ifCond .ne 7, 3) := by decide +kernel
theorem dX10_spanOf_64 : decode cX10_spanOf 64 = .ok (.ldc2_w 45, 3) := by decide +kernel
theorem dX10_spanOf_67 : decode cX10_spanOf 67 = .ok (.lreturn, 1) := by decide +kernel
theorem dX10_spanOf_68 : decode cX10_spanOf 68 = .ok (.ldc2_w 45, 3) := by decide +kernel
theorem dX10_spanOf_71 : decode cX10_spanOf 71 = .ok (.lstore 5, 2) := by decide +kernel
theorem dX10_spanOf_73 : decode cX10_spanOf 73 = .ok (.iconst 0, 1) := by decide +kernel
theorem dX10_spanOf_74 : decode cX10_spanOf 74 = .ok (.istore 7, 2) := by decide +kernel
theorem dX10_spanOf_76 : decode cX10_spanOf 76 = .ok (.iload 7, 2) := by decide +kernel
theorem dX10_spanOf_78 : decode cX10_spanOf 78 = .ok (.aload_n 0, 1) := by decide +kernel
theorem dX10_spanOf_79 : decode cX10_spanOf 79 = .ok (.getfield 13, 3) := by decide +kernel
theorem dX10_spanOf_82 : decode cX10_spanOf 82 = .ok (.iload_n 1, 1) := by decide +kernel
theorem dX10_spanOf_83 : decode cX10_spanOf 83 = .ok (.iaload, 1) := by decide +kernel
theorem dX10_spanOf_84 : decode cX10_spanOf 84 = .ok (.if_icmp .ge 96, 3) := by decide +kernel
theorem dX10_spanOf_87 : decode cX10_spanOf 87 = .ok (.lload_n 2, 1) := by decide +kernel
theorem dX10_spanOf_88 : decode cX10_spanOf 88 = .ok (.aload_n 0, 1) := by decide +kernel
theorem dX10_spanOf_89 : decode cX10_spanOf 89 = .ok (.getfield 23, 3) := by decide +kernel
theorem dX10_spanOf_92 : decode cX10_spanOf 92 = .ok (.sipush 300, 3) := by decide +kernel
theorem dX10_spanOf_95 : decode cX10_spanOf 95 = .ok (.iload_n 1, 1) := by decide +kernel
theorem dX10_spanOf_96 : decode cX10_spanOf 96 = .ok (.imul, 1) := by decide +kernel
theorem dX10_spanOf_97 : decode cX10_spanOf 97 = .ok (.aload_n 0, 1) := by decide +kernel
theorem dX10_spanOf_98 : decode cX10_spanOf 98 = .ok (.getfield 7, 3) := by decide +kernel
theorem dX10_spanOf_101 : decode cX10_spanOf 101 = .ok (.iload_n 1, 1) := by decide +kernel
theorem dX10_spanOf_102 : decode cX10_spanOf 102 = .ok (.iaload, 1) := by decide +kernel
theorem dX10_spanOf_103 : decode cX10_spanOf 103 = .ok (.iadd, 1) := by decide +kernel
theorem dX10_spanOf_104 : decode cX10_spanOf 104 = .ok (.iload 7, 2) := by decide +kernel
theorem dX10_spanOf_106 : decode cX10_spanOf 106 = .ok (.iadd, 1) := by decide +kernel
theorem dX10_spanOf_107 : decode cX10_spanOf 107 = .ok (.laload, 1) := by decide +kernel
theorem dX10_spanOf_108 : decode cX10_spanOf 108 = .ok (.lsub, 1) := by decide +kernel
theorem dX10_spanOf_109 : decode cX10_spanOf 109 = .ok (.lstore 8, 2) := by decide +kernel
theorem dX10_spanOf_111 : decode cX10_spanOf 111 = .ok (.aload_n 0, 1) := by decide +kernel
theorem dX10_spanOf_112 : decode cX10_spanOf 112 = .ok (.getfield 7, 3) := by decide +kernel
theorem dX10_spanOf_115 : decode cX10_spanOf 115 = .ok (.iload_n 1, 1) := by decide +kernel
theorem dX10_spanOf_116 : decode cX10_spanOf 116 = .ok (.iaload, 1) := by decide +kernel
theorem dX10_spanOf_117 : decode cX10_spanOf 117 = .ok (.iload 7, 2) := by decide +kernel
theorem dX10_spanOf_119 : decode cX10_spanOf 119 = .ok (.iadd, 1) := by decide +kernel
theorem dX10_spanOf_120 : decode cX10_spanOf 120 = .ok (.i2l, 1) := by decide +kernel
theorem dX10_spanOf_121 : decode cX10_spanOf 121 = .ok (.lload 8, 2) := by decide +kernel
theorem dX10_spanOf_123 : decode cX10_spanOf 123 = .ok (.aload_n 0, 1) := by decide +kernel
theorem dX10_spanOf_124 : decode cX10_spanOf 124 = .ok (.getfield 16, 3) := by decide +kernel
theorem dX10_spanOf_127 : decode cX10_spanOf 127 = .ok (.iload_n 1, 1) := by decide +kernel
theorem dX10_spanOf_128 : decode cX10_spanOf 128 = .ok (.laload, 1) := by decide +kernel
theorem dX10_spanOf_129 : decode cX10_spanOf 129 = .ok (.ladd, 1) := by decide +kernel
theorem dX10_spanOf_130 : decode cX10_spanOf 130 = .ok (.lconst 1, 1) := by decide +kernel
theorem dX10_spanOf_131 : decode cX10_spanOf 131 = .ok (.lsub, 1) := by decide +kernel
theorem dX10_spanOf_132 : decode cX10_spanOf 132 = .ok (.aload_n 0, 1) := by decide +kernel
theorem dX10_spanOf_133 : decode cX10_spanOf 133 = .ok (.getfield 16, 3) := by decide +kernel
theorem dX10_spanOf_136 : decode cX10_spanOf 136 = .ok (.iload_n 1, 1) := by decide +kernel
theorem dX10_spanOf_137 : decode cX10_spanOf 137 = .ok (.laload, 1) := by decide +kernel
theorem dX10_spanOf_138 : decode cX10_spanOf 138 = .ok (.ldiv, 1) := by decide +kernel
theorem dX10_spanOf_139 : decode cX10_spanOf 139 = .ok (.aload_n 0, 1) := by decide +kernel
theorem dX10_spanOf_140 : decode cX10_spanOf 140 = .ok (.getfield 13, 3) := by decide +kernel
theorem dX10_spanOf_143 : decode cX10_spanOf 143 = .ok (.iload_n 1, 1) := by decide +kernel
theorem dX10_spanOf_144 : decode cX10_spanOf 144 = .ok (.iaload, 1) := by decide +kernel
theorem dX10_spanOf_145 : decode cX10_spanOf 145 = .ok (.i2l, 1) := by decide +kernel
theorem dX10_spanOf_146 : decode cX10_spanOf 146 = .ok (.lmul, 1) := by decide +kernel
theorem dX10_spanOf_147 : decode cX10_spanOf 147 = .ok (.ladd, 1) := by decide +kernel
theorem dX10_spanOf_148 : decode cX10_spanOf 148 = .ok (.lstore 10, 2) := by decide +kernel
theorem dX10_spanOf_150 : decode cX10_spanOf 150 = .ok (.lload 5, 2) := by decide +kernel
theorem dX10_spanOf_152 : decode cX10_spanOf 152 = .ok (.lconst 0, 1) := by decide +kernel
theorem dX10_spanOf_153 : decode cX10_spanOf 153 = .ok (.lcmp, 1) := by decide +kernel
theorem dX10_spanOf_154 : decode cX10_spanOf 154 = .ok (.ifCond .lt 11, 3) := by decide +kernel
theorem dX10_spanOf_157 : decode cX10_spanOf 157 = .ok (.lload 10, 2) := by decide +kernel
theorem dX10_spanOf_159 : decode cX10_spanOf 159 = .ok (.lload 5, 2) := by decide +kernel
theorem dX10_spanOf_161 : decode cX10_spanOf 161 = .ok (.lcmp, 1) := by decide +kernel
theorem dX10_spanOf_162 : decode cX10_spanOf 162 = .ok (.ifCond .ge 8, 3) := by decide +kernel
theorem dX10_spanOf_165 : decode cX10_spanOf 165 = .ok (.lload 10, 2) := by decide +kernel
theorem dX10_spanOf_167 : decode cX10_spanOf 167 = .ok (.goto 5, 3) := by decide +kernel
theorem dX10_spanOf_170 : decode cX10_spanOf 170 = .ok (.lload 5, 2) := by decide +kernel
theorem dX10_spanOf_172 : decode cX10_spanOf 172 = .ok (.lstore 5, 2) := by decide +kernel
theorem dX10_spanOf_174 : decode cX10_spanOf 174 = .ok (.iinc 7 1, 3) := by decide +kernel
theorem dX10_spanOf_177 : decode cX10_spanOf 177 = .ok (.goto (-101), 3) := by decide +kernel
theorem dX10_spanOf_180 : decode cX10_spanOf 180 = .ok (.lload 5, 2) := by decide +kernel
theorem dX10_spanOf_182 : decode cX10_spanOf 182 = .ok (.lreturn, 1) := by decide +kernel
theorem dX10_first_0 : decode cX10_first 0 = .ok (.aload_n 0, 1) := by decide +kernel
theorem dX10_first_1 : decode cX10_first 1 = .ok (.iload_n 1, 1) := by decide +kernel
theorem dX10_first_2 : decode cX10_first 2 = .ok (.invokevirtual 109, 3) := by decide +kernel
theorem dX10_first_5 : decode cX10_first 5 = .ok (.ifCond .eq 9, 3) := by decide +kernel
theorem dX10_first_8 : decode cX10_first 8 = .ok (.lload_n 2, 1) := by decide +kernel
theorem dX10_first_9 : decode cX10_first 9 = .ok (.lconst 0, 1) := by decide +kernel
theorem dX10_first_10 : decode cX10_first 10 = .ok (.lcmp, 1) := by decide +kernel
theorem dX10_first_11 : decode cX10_first 11 = .ok (.ifCond .ge 9, 3) := by decide +kernel
theorem dX10_first_14 : decode cX10_first 14 = .ok (.aload_n 0, 1) := by decide +kernel
theorem dX10_first_15 : decode cX10_first 15 = .ok (.iconst (-1), 1) := by decide +kernel
theorem dX10_first_16 : decode cX10_first 16 = .ok (.invokevirtual 58, 3) := by decide +kernel
theorem dX10_first_19 : decode cX10_first 19 = .ok (.ireturn, 1) := by decide +kernel
theorem dX10_first_20 : decode cX10_first 20 = .ok (.lload_n 2, 1) := by decide +kernel
theorem dX10_first_21 : decode cX10_first 21 = .ok (.aload_n 0, 1) := by decide +kernel
theorem dX10_first_22 : decode cX10_first 22 = .ok (.iload_n 1, 1) := by decide +kernel
theorem dX10_first_23 : decode cX10_first 23 = .ok (.ldc2_w 62, 3) := by decide +kernel
theorem dX10_first_26 : decode cX10_first 26 = .ok (.invokevirtual 95, 3) := by decide +kernel
theorem dX10_first_29 : decode cX10_first 29 = .ok (.lcmp, 1) := by decide +kernel
theorem dX10_first_30 : decode cX10_first 30 = .ok (.ifCond .le 10, 3) := by decide +kernel
theorem dX10_first_33 : decode cX10_first 33 = .ok (.aload_n 0, 1) := by decide +kernel
theorem dX10_first_34 : decode cX10_first 34 = .ok (.bipush (-5), 2) := by decide +kernel
theorem dX10_first_36 : decode cX10_first 36 = .ok (.invokevirtual 58, 3) := by decide +kernel
theorem dX10_first_39 : decode cX10_first 39 = .ok (.ireturn, 1) := by decide +kernel
theorem dX10_first_40 : decode cX10_first 40 = .ok (.aload_n 0, 1) := by decide +kernel
theorem dX10_first_41 : decode cX10_first 41 = .ok (.aload_n 0, 1) := by decide +kernel
theorem dX10_first_42 : decode cX10_first 42 = .ok (.iload_n 1, 1) := by decide +kernel
theorem dX10_first_43 : decode cX10_first 43 = .ok (.lload_n 2, 1) := by decide +kernel
theorem dX10_first_44 : decode cX10_first 44 = .ok (.invokevirtual 144, 3) := by decide +kernel
theorem dX10_first_47 : decode cX10_first 47 = .ok (.l2i, 1) := by decide +kernel
theorem dX10_first_48 : decode cX10_first 48 = .ok (.invokevirtual 73, 3) := by decide +kernel
theorem dX10_first_51 : decode cX10_first 51 = .ok (.ireturn, 1) := by decide +kernel
theorem dX10_heap_0 : decode cX10_heap 0 = .ok (.aload_n 0, 1) := by decide +kernel
theorem dX10_heap_1 : decode cX10_heap 1 = .ok (.iload_n 1, 1) := by decide +kernel
theorem dX10_heap_2 : decode cX10_heap 2 = .ok (.invokevirtual 109, 3) := by decide +kernel
theorem dX10_heap_5 : decode cX10_heap 5 = .ok (.ifCond .eq 11, 3) := by decide +kernel
theorem dX10_heap_8 : decode cX10_heap 8 = .ok (.aload_n 0, 1) := by decide +kernel
theorem dX10_heap_9 : decode cX10_heap 9 = .ok (.iload_n 2, 1) := by decide +kernel
theorem dX10_heap_10 : decode cX10_heap 10 = .ok (.invokevirtual 109, 3) := by decide +kernel
theorem dX10_heap_13 : decode cX10_heap 13 = .ok (.ifCond .ne 9, 3) := by decide +kernel
theorem dX10_heap_16 : decode cX10_heap 16 = .ok (.aload_n 0, 1) := by decide +kernel
theorem dX10_heap_17 : decode cX10_heap 17 = .ok (.iconst (-1), 1) := by decide +kernel
theorem dX10_heap_18 : decode cX10_heap 18 = .ok (.invokevirtual 128, 3) := by decide +kernel
theorem dX10_heap_21 : decode cX10_heap 21 = .ok (.lreturn, 1) := by decide +kernel
theorem dX10_heap_22 : decode cX10_heap 22 = .ok (.aload_n 0, 1) := by decide +kernel
theorem dX10_heap_23 : decode cX10_heap 23 = .ok (.iload_n 1, 1) := by decide +kernel
theorem dX10_heap_24 : decode cX10_heap 24 = .ok (.iload_n 2, 1) := by decide +kernel
theorem dX10_heap_25 : decode cX10_heap 25 = .ok (.invokevirtual 113, 3) := by decide +kernel
theorem dX10_heap_28 : decode cX10_heap 28 = .ok (.istore_n 3, 1) := by decide +kernel
theorem dX10_heap_29 : decode cX10_heap 29 = .ok (.iload_n 3, 1) := by decide +kernel
theorem dX10_heap_30 : decode cX10_heap 30 = .ok (.bipush 60, 2) := by decide +kernel
theorem dX10_heap_32 : decode cX10_heap 32 = .ok (.if_icmp .le 10, 3) := by decide +kernel
theorem dX10_heap_35 : decode cX10_heap 35 = .ok (.aload_n 0, 1) := by decide +kernel
theorem dX10_heap_36 : decode cX10_heap 36 = .ok (.bipush (-4), 2) := by decide +kernel
theorem dX10_heap_38 : decode cX10_heap 38 = .ok (.invokevirtual 128, 3) := by decide +kernel
theorem dX10_heap_41 : decode cX10_heap 41 = .ok (.lreturn, 1) := by decide +kernel
theorem dX10_heap_42 : decode cX10_heap 42 = .ok (.aload_n 0, 1) := by decide +kernel
theorem dX10_heap_43 : decode cX10_heap 43 = .ok (.iload_n 1, 1) := by decide +kernel
theorem dX10_heap_44 : decode cX10_heap 44 = .ok (.iload_n 3, 1) := by decide +kernel
theorem dX10_heap_45 : decode cX10_heap 45 = .ok (.invokevirtual 116, 3) := by decide +kernel
theorem dX10_heap_48 : decode cX10_heap 48 = .ok (.aload_n 0, 1) := by decide +kernel
theorem dX10_heap_49 : decode cX10_heap 49 = .ok (.iload_n 2, 1) := by decide +kernel
theorem dX10_heap_50 : decode cX10_heap 50 = .ok (.iload_n 3, 1) := by decide +kernel
theorem dX10_heap_51 : decode cX10_heap 51 = .ok (.invokevirtual 116, 3) := by decide +kernel
theorem dX10_heap_54 : decode cX10_heap 54 = .ok (.lcmp, 1) := by decide +kernel
theorem dX10_heap_55 : decode cX10_heap 55 = .ok (.ifCond .le 10, 3) := by decide +kernel
theorem dX10_heap_58 : decode cX10_heap 58 = .ok (.aload_n 0, 1) := by decide +kernel
theorem dX10_heap_59 : decode cX10_heap 59 = .ok (.bipush (-5), 2) := by decide +kernel
theorem dX10_heap_61 : decode cX10_heap 61 = .ok (.invokevirtual 128, 3) := by decide +kernel
theorem dX10_heap_64 : decode cX10_heap 64 = .ok (.lreturn, 1) := by decide +kernel
theorem dX10_heap_65 : decode cX10_heap 65 = .ok (.aload_n 0, 1) := by decide +kernel
theorem dX10_heap_66 : decode cX10_heap 66 = .ok (.aload_n 0, 1) := by decide +kernel
theorem dX10_heap_67 : decode cX10_heap 67 = .ok (.iload_n 1, 1) := by decide +kernel
theorem dX10_heap_68 : decode cX10_heap 68 = .ok (.iload_n 2, 1) := by decide +kernel
theorem dX10_heap_69 : decode cX10_heap 69 = .ok (.iconst 0, 1) := by decide +kernel
theorem dX10_heap_70 : decode cX10_heap 70 = .ok (.iload_n 3, 1) := by decide +kernel
theorem dX10_heap_71 : decode cX10_heap 71 = .ok (.invokevirtual 103, 3) := by decide +kernel
theorem dX10_heap_74 : decode cX10_heap 74 = .ok (.invokevirtual 132, 3) := by decide +kernel
theorem dX10_heap_77 : decode cX10_heap 77 = .ok (.lreturn, 1) := by decide +kernel
theorem dX10_wait_0 : decode cX10_wait 0 = .ok (.aload_n 0, 1) := by decide +kernel
theorem dX10_wait_1 : decode cX10_wait 1 = .ok (.iload_n 1, 1) := by decide +kernel
theorem dX10_wait_2 : decode cX10_wait 2 = .ok (.invokevirtual 109, 3) := by decide +kernel
theorem dX10_wait_5 : decode cX10_wait 5 = .ok (.ifCond .eq 11, 3) := by decide +kernel
theorem dX10_wait_8 : decode cX10_wait 8 = .ok (.aload_n 0, 1) := by decide +kernel
theorem dX10_wait_9 : decode cX10_wait 9 = .ok (.iload_n 2, 1) := by decide +kernel
theorem dX10_wait_10 : decode cX10_wait 10 = .ok (.invokevirtual 109, 3) := by decide +kernel
theorem dX10_wait_13 : decode cX10_wait 13 = .ok (.ifCond .ne 9, 3) := by decide +kernel
theorem dX10_wait_16 : decode cX10_wait 16 = .ok (.aload_n 0, 1) := by decide +kernel
theorem dX10_wait_17 : decode cX10_wait 17 = .ok (.iconst (-1), 1) := by decide +kernel
theorem dX10_wait_18 : decode cX10_wait 18 = .ok (.invokevirtual 58, 3) := by decide +kernel
theorem dX10_wait_21 : decode cX10_wait 21 = .ok (.ireturn, 1) := by decide +kernel
theorem dX10_wait_22 : decode cX10_wait 22 = .ok (.aload_n 0, 1) := by decide +kernel
theorem dX10_wait_23 : decode cX10_wait 23 = .ok (.iload_n 1, 1) := by decide +kernel
theorem dX10_wait_24 : decode cX10_wait 24 = .ok (.iload_n 2, 1) := by decide +kernel
theorem dX10_wait_25 : decode cX10_wait 25 = .ok (.invokevirtual 113, 3) := by decide +kernel
theorem dX10_wait_28 : decode cX10_wait 28 = .ok (.istore_n 3, 1) := by decide +kernel
theorem dX10_wait_29 : decode cX10_wait 29 = .ok (.iload_n 3, 1) := by decide +kernel
theorem dX10_wait_30 : decode cX10_wait 30 = .ok (.bipush 60, 2) := by decide +kernel
theorem dX10_wait_32 : decode cX10_wait 32 = .ok (.if_icmp .le 10, 3) := by decide +kernel
theorem dX10_wait_35 : decode cX10_wait 35 = .ok (.aload_n 0, 1) := by decide +kernel
theorem dX10_wait_36 : decode cX10_wait 36 = .ok (.bipush (-4), 2) := by decide +kernel
theorem dX10_wait_38 : decode cX10_wait 38 = .ok (.invokevirtual 58, 3) := by decide +kernel
theorem dX10_wait_41 : decode cX10_wait 41 = .ok (.ireturn, 1) := by decide +kernel
theorem dX10_wait_42 : decode cX10_wait 42 = .ok (.aload_n 0, 1) := by decide +kernel
theorem dX10_wait_43 : decode cX10_wait 43 = .ok (.iload_n 1, 1) := by decide +kernel
theorem dX10_wait_44 : decode cX10_wait 44 = .ok (.iload_n 3, 1) := by decide +kernel
theorem dX10_wait_45 : decode cX10_wait 45 = .ok (.invokevirtual 116, 3) := by decide +kernel
theorem dX10_wait_48 : decode cX10_wait 48 = .ok (.aload_n 0, 1) := by decide +kernel
theorem dX10_wait_49 : decode cX10_wait 49 = .ok (.iload_n 2, 1) := by decide +kernel
theorem dX10_wait_50 : decode cX10_wait 50 = .ok (.iload_n 3, 1) := by decide +kernel
theorem dX10_wait_51 : decode cX10_wait 51 = .ok (.invokevirtual 116, 3) := by decide +kernel
theorem dX10_wait_54 : decode cX10_wait 54 = .ok (.lcmp, 1) := by decide +kernel
theorem dX10_wait_55 : decode cX10_wait 55 = .ok (.ifCond .le 10, 3) := by decide +kernel
theorem dX10_wait_58 : decode cX10_wait 58 = .ok (.aload_n 0, 1) := by decide +kernel
theorem dX10_wait_59 : decode cX10_wait 59 = .ok (.bipush (-5), 2) := by decide +kernel
theorem dX10_wait_61 : decode cX10_wait 61 = .ok (.invokevirtual 58, 3) := by decide +kernel
theorem dX10_wait_64 : decode cX10_wait 64 = .ok (.ireturn, 1) := by decide +kernel
theorem dX10_wait_65 : decode cX10_wait 65 = .ok (.lconst 0, 1) := by decide +kernel
theorem dX10_wait_66 : decode cX10_wait 66 = .ok (.lstore 4, 2) := by decide +kernel
theorem dX10_wait_68 : decode cX10_wait 68 = .ok (.iconst 0, 1) := by decide +kernel
theorem dX10_wait_69 : decode cX10_wait 69 = .ok (.istore 6, 2) := by decide +kernel
theorem dX10_wait_71 : decode cX10_wait 71 = .ok (.iload 6, 2) := by decide +kernel
theorem dX10_wait_73 : decode cX10_wait 73 = .ok (.sipush 200, 3) := by decide +kernel
theorem dX10_wait_76 : decode cX10_wait 76 = .ok (.iload_n 3, 1) := by decide +kernel
theorem dX10_wait_77 : decode cX10_wait 77 = .ok (.iadd, 1) := by decide +kernel
theorem dX10_wait_78 : decode cX10_wait 78 = .ok (.if_icmp .ge 63, 3) := by decide +kernel
theorem dX10_wait_81 : decode cX10_wait 81 = .ok (.aload_n 0, 1) := by decide +kernel
theorem dX10_wait_82 : decode cX10_wait 82 = .ok (.iload_n 2, 1) := by decide +kernel
theorem dX10_wait_83 : decode cX10_wait 83 = .ok (.aload_n 0, 1) := by decide +kernel
theorem dX10_wait_84 : decode cX10_wait 84 = .ok (.iload_n 1, 1) := by decide +kernel
theorem dX10_wait_85 : decode cX10_wait 85 = .ok (.iload 6, 2) := by decide +kernel
theorem dX10_wait_87 : decode cX10_wait 87 = .ok (.i2l, 1) := by decide +kernel
theorem dX10_wait_88 : decode cX10_wait 88 = .ok (.invokevirtual 95, 3) := by decide +kernel
theorem dX10_wait_91 : decode cX10_wait 91 = .ok (.invokevirtual 144, 3) := by decide +kernel
theorem dX10_wait_94 : decode cX10_wait 94 = .ok (.lstore 7, 2) := by decide +kernel
theorem dX10_wait_96 : decode cX10_wait 96 = .ok (.lload 7, 2) := by decide +kernel
theorem dX10_wait_98 : decode cX10_wait 98 = .ok (.lconst 0, 1) := by decide +kernel
theorem dX10_wait_99 : decode cX10_wait 99 = .ok (.lcmp, 1) := by decide +kernel
theorem dX10_wait_100 : decode cX10_wait 100 = .ok (.ifCond .ge 10, 3) := by decide +kernel
theorem dX10_wait_103 : decode cX10_wait 103 = .ok (.aload_n 0, 1) := by decide +kernel
theorem dX10_wait_104 : decode cX10_wait 104 = .ok (.bipush (-5), 2) := by decide +kernel
theorem dX10_wait_106 : decode cX10_wait 106 = .ok (.invokevirtual 58, 3) := by decide +kernel
theorem dX10_wait_109 : decode cX10_wait 109 = .ok (.ireturn, 1) := by decide +kernel
theorem dX10_wait_110 : decode cX10_wait 110 = .ok (.lload 7, 2) := by decide +kernel
theorem dX10_wait_112 : decode cX10_wait 112 = .ok (.iload 6, 2) := by decide +kernel
theorem dX10_wait_114 : decode cX10_wait 114 = .ok (.i2l, 1) := by decide +kernel
theorem dX10_wait_115 : decode cX10_wait 115 = .ok (.lsub, 1) := by decide +kernel
theorem dX10_wait_116 : decode cX10_wait 116 = .ok (.lload 4, 2) := by decide +kernel
theorem dX10_wait_118 : decode cX10_wait 118 = .ok (.lcmp, 1) := by decide +kernel
theorem dX10_wait_119 : decode cX10_wait 119 = .ok (.ifCond .le 12, 3) := by decide +kernel
theorem dX10_wait_122 : decode cX10_wait 122 = .ok (.lload 7, 2) := by decide +kernel
theorem dX10_wait_124 : decode cX10_wait 124 = .ok (.iload 6, 2) := by decide +kernel
theorem dX10_wait_126 : decode cX10_wait 126 = .ok (.i2l, 1) := by decide +kernel
theorem dX10_wait_127 : decode cX10_wait 127 = .ok (.lsub, 1) := by decide +kernel
theorem dX10_wait_128 : decode cX10_wait 128 = .ok (.goto 5, 3) := by decide +kernel
theorem dX10_wait_131 : decode cX10_wait 131 = .ok (.lload 4, 2) := by decide +kernel
theorem dX10_wait_133 : decode cX10_wait 133 = .ok (.lstore 4, 2) := by decide +kernel
theorem dX10_wait_135 : decode cX10_wait 135 = .ok (.iinc 6 1, 3) := by decide +kernel
theorem dX10_wait_138 : decode cX10_wait 138 = .ok (.goto (-67), 3) := by decide +kernel
theorem dX10_wait_141 : decode cX10_wait 141 = .ok (.lload 4, 2) := by decide +kernel
theorem dX10_wait_143 : decode cX10_wait 143 = .ok (.ldc2_w 62, 3) := by decide +kernel
theorem dX10_wait_146 : decode cX10_wait 146 = .ok (.lcmp, 1) := by decide +kernel
theorem dX10_wait_147 : decode cX10_wait 147 = .ok (.ifCond .le 12, 3) := by decide +kernel
theorem dX10_wait_150 : decode cX10_wait 150 = .ok (.aload_n 0, 1) := by decide +kernel
theorem dX10_wait_151 : decode cX10_wait 151 = .ok (.bipush (-5), 2) := by decide +kernel
theorem dX10_wait_153 : decode cX10_wait 153 = .ok (.invokevirtual 58, 3) := by decide +kernel
theorem dX10_wait_156 : decode cX10_wait 156 = .ok (.goto 10, 3) := by decide +kernel
theorem dX10_wait_159 : decode cX10_wait 159 = .ok (.aload_n 0, 1) := by decide +kernel
theorem dX10_wait_160 : decode cX10_wait 160 = .ok (.lload 4, 2) := by decide +kernel
theorem dX10_wait_162 : decode cX10_wait 162 = .ok (.l2i, 1) := by decide +kernel
theorem dX10_wait_163 : decode cX10_wait 163 = .ok (.invokevirtual 73, 3) := by decide +kernel
theorem dX10_wait_166 : decode cX10_wait 166 = .ok (.ireturn, 1) := by decide +kernel
theorem dX10_come_0 : decode cX10_come 0 = .ok (.iload_n 1, 1) := by decide +kernel
theorem dX10_come_1 : decode cX10_come 1 = .ok (.i2l, 1) := by decide +kernel
theorem dX10_come_2 : decode cX10_come 2 = .ok (.lconst 0, 1) := by decide +kernel
theorem dX10_come_3 : decode cX10_come 3 = .ok (.ldc2_w 62, 3) := by decide +kernel
theorem dX10_come_6 : decode cX10_come 6 = .ok (.invokestatic 50, 3) := by decide +kernel
theorem dX10_come_9 : decode cX10_come 9 = .ok (.ifCond .ne 9, 3) := by decide +kernel
theorem dX10_come_12 : decode cX10_come 12 = .ok (.aload_n 0, 1) := by decide +kernel
theorem dX10_come_13 : decode cX10_come 13 = .ok (.iconst (-1), 1) := by decide +kernel
theorem dX10_come_14 : decode cX10_come 14 = .ok (.invokevirtual 58, 3) := by decide +kernel
theorem dX10_come_17 : decode cX10_come 17 = .ok (.ireturn, 1) := by decide +kernel
theorem dX10_come_18 : decode cX10_come 18 = .ok (.aload_n 0, 1) := by decide +kernel
theorem dX10_come_19 : decode cX10_come 19 = .ok (.getfield 147, 3) := by decide +kernel
theorem dX10_come_22 : decode cX10_come 22 = .ok (.bipush 60, 2) := by decide +kernel
theorem dX10_come_24 : decode cX10_come 24 = .ok (.if_icmp .ne 10, 3) := by decide +kernel
theorem dX10_come_27 : decode cX10_come 27 = .ok (.aload_n 0, 1) := by decide +kernel
theorem dX10_come_28 : decode cX10_come 28 = .ok (.bipush (-3), 2) := by decide +kernel
theorem dX10_come_30 : decode cX10_come 30 = .ok (.invokevirtual 58, 3) := by decide +kernel
theorem dX10_come_33 : decode cX10_come 33 = .ok (.ireturn, 1) := by decide +kernel
theorem dX10_come_34 : decode cX10_come 34 = .ok (.aload_n 0, 1) := by decide +kernel
theorem dX10_come_35 : decode cX10_come 35 = .ok (.getfield 29, 3) := by decide +kernel
theorem dX10_come_38 : decode cX10_come 38 = .ok (.aload_n 0, 1) := by decide +kernel
theorem dX10_come_39 : decode cX10_come 39 = .ok (.getfield 147, 3) := by decide +kernel
theorem dX10_come_42 : decode cX10_come 42 = .ok (.iload_n 1, 1) := by decide +kernel
theorem dX10_come_43 : decode cX10_come 43 = .ok (.i2l, 1) := by decide +kernel
theorem dX10_come_44 : decode cX10_come 44 = .ok (.lastore, 1) := by decide +kernel
theorem dX10_come_45 : decode cX10_come 45 = .ok (.aload_n 0, 1) := by decide +kernel
theorem dX10_come_46 : decode cX10_come 46 = .ok (.dup, 1) := by decide +kernel
theorem dX10_come_47 : decode cX10_come 47 = .ok (.getfield 147, 3) := by decide +kernel
theorem dX10_come_50 : decode cX10_come 50 = .ok (.iconst 1, 1) := by decide +kernel
theorem dX10_come_51 : decode cX10_come 51 = .ok (.iadd, 1) := by decide +kernel
theorem dX10_come_52 : decode cX10_come 52 = .ok (.putfield 147, 3) := by decide +kernel
theorem dX10_come_55 : decode cX10_come 55 = .ok (.aload_n 0, 1) := by decide +kernel
theorem dX10_come_56 : decode cX10_come 56 = .ok (.aload_n 0, 1) := by decide +kernel
theorem dX10_come_57 : decode cX10_come 57 = .ok (.getfield 147, 3) := by decide +kernel
theorem dX10_come_60 : decode cX10_come 60 = .ok (.invokevirtual 73, 3) := by decide +kernel
theorem dX10_come_63 : decode cX10_come 63 = .ok (.ireturn, 1) := by decide +kernel
theorem dX10_hardest_0 : decode cX10_hardest 0 = .ok (.aload_n 0, 1) := by decide +kernel
theorem dX10_hardest_1 : decode cX10_hardest 1 = .ok (.iload_n 1, 1) := by decide +kernel
theorem dX10_hardest_2 : decode cX10_hardest 2 = .ok (.invokevirtual 109, 3) := by decide +kernel
theorem dX10_hardest_5 : decode cX10_hardest 5 = .ok (.ifCond .eq 15, 3) := by decide +kernel
theorem dX10_hardest_8 : decode cX10_hardest 8 = .ok (.iload_n 2, 1) := by decide +kernel
theorem dX10_hardest_9 : decode cX10_hardest 9 = .ok (.i2l, 1) := by decide +kernel
theorem dX10_hardest_10 : decode cX10_hardest 10 = .ok (.lconst 0, 1) := by decide +kernel
theorem dX10_hardest_11 : decode cX10_hardest 11 = .ok (.ldc2_w 85, 3) := by decide +kernel
theorem dX10_hardest_14 : decode cX10_hardest 14 = .ok (.invokestatic 50, 3) := by decide +kernel
theorem dX10_hardest_17 : decode cX10_hardest 17 = .ok (.ifCond .ne 9, 3) := by decide +kernel
theorem dX10_hardest_20 : decode cX10_hardest 20 = .ok (.aload_n 0, 1) := by decide +kernel
theorem dX10_hardest_21 : decode cX10_hardest 21 = .ok (.iconst (-1), 1) := by decide +kernel
theorem dX10_hardest_22 : decode cX10_hardest 22 = .ok (.invokevirtual 58, 3) := by decide +kernel
theorem dX10_hardest_25 : decode cX10_hardest 25 = .ok (.ireturn, 1) := by decide +kernel
theorem dX10_hardest_26 : decode cX10_hardest 26 = .ok (.iconst 1, 1) := by decide +kernel
theorem dX10_hardest_27 : decode cX10_hardest 27 = .ok (.istore_n 3, 1) := by decide +kernel
theorem dX10_hardest_28 : decode cX10_hardest 28 = .ok (.iload_n 3, 1) := by decide +kernel
theorem dX10_hardest_29 : decode cX10_hardest 29 = .ok (.iload_n 2, 1) := by decide +kernel
theorem dX10_hardest_30 : decode cX10_hardest 30 = .ok (.if_icmp .gt 48, 3) := by decide +kernel
theorem dX10_hardest_33 : decode cX10_hardest 33 = .ok (.aload_n 0, 1) := by decide +kernel
theorem dX10_hardest_34 : decode cX10_hardest 34 = .ok (.iload_n 1, 1) := by decide +kernel
theorem dX10_hardest_35 : decode cX10_hardest 35 = .ok (.iload_n 3, 1) := by decide +kernel
theorem dX10_hardest_36 : decode cX10_hardest 36 = .ok (.i2l, 1) := by decide +kernel
theorem dX10_hardest_37 : decode cX10_hardest 37 = .ok (.invokevirtual 95, 3) := by decide +kernel
theorem dX10_hardest_40 : decode cX10_hardest 40 = .ok (.iload_n 3, 1) := by decide +kernel
theorem dX10_hardest_41 : decode cX10_hardest 41 = .ok (.iconst 1, 1) := by decide +kernel
theorem dX10_hardest_42 : decode cX10_hardest 42 = .ok (.if_icmp .ne 7, 3) := by decide +kernel
theorem dX10_hardest_45 : decode cX10_hardest 45 = .ok (.lconst 0, 1) := by decide +kernel
theorem dX10_hardest_46 : decode cX10_hardest 46 = .ok (.goto 12, 3) := by decide +kernel
theorem dX10_hardest_49 : decode cX10_hardest 49 = .ok (.aload_n 0, 1) := by decide +kernel
theorem dX10_hardest_50 : decode cX10_hardest 50 = .ok (.iload_n 1, 1) := by decide +kernel
theorem dX10_hardest_51 : decode cX10_hardest 51 = .ok (.iload_n 3, 1) := by decide +kernel
theorem dX10_hardest_52 : decode cX10_hardest 52 = .ok (.iconst 1, 1) := by decide +kernel
theorem dX10_hardest_53 : decode cX10_hardest 53 = .ok (.isub, 1) := by decide +kernel
theorem dX10_hardest_54 : decode cX10_hardest 54 = .ok (.i2l, 1) := by decide +kernel
theorem dX10_hardest_55 : decode cX10_hardest 55 = .ok (.invokevirtual 95, 3) := by decide +kernel
theorem dX10_hardest_58 : decode cX10_hardest 58 = .ok (.lsub, 1) := by decide +kernel
theorem dX10_hardest_59 : decode cX10_hardest 59 = .ok (.ldc2_w 62, 3) := by decide +kernel
theorem dX10_hardest_62 : decode cX10_hardest 62 = .ok (.lcmp, 1) := by decide +kernel
theorem dX10_hardest_63 : decode cX10_hardest 63 = .ok (.ifCond .le 9, 3) := by decide +kernel
theorem dX10_hardest_66 : decode cX10_hardest 66 = .ok (.aload_n 0, 1) := by decide +kernel
theorem dX10_hardest_67 : decode cX10_hardest 67 = .ok (.iconst (-1), 1) := by decide +kernel
theorem dX10_hardest_68 : decode cX10_hardest 68 = .ok (.invokevirtual 58, 3) := by decide +kernel
theorem dX10_hardest_71 : decode cX10_hardest 71 = .ok (.ireturn, 1) := by decide +kernel
theorem dX10_hardest_72 : decode cX10_hardest 72 = .ok (.iinc 3 1, 3) := by decide +kernel
theorem dX10_hardest_75 : decode cX10_hardest 75 = .ok (.goto (-47), 3) := by decide +kernel
theorem dX10_hardest_78 : decode cX10_hardest 78 = .ok (.iconst 1, 1) := by decide +kernel
theorem dX10_hardest_79 : decode cX10_hardest 79 = .ok (.istore_n 3, 1) := by decide +kernel
theorem dX10_hardest_80 : decode cX10_hardest 80 = .ok (.iload_n 3, 1) := by decide +kernel
theorem dX10_hardest_81 : decode cX10_hardest 81 = .ok (.iload_n 2, 1) := by decide +kernel
theorem dX10_hardest_82 : decode cX10_hardest 82 = .ok (.if_icmp .gt 43, 3) := by decide +kernel
theorem dX10_hardest_85 : decode cX10_hardest 85 = .ok (.aload_n 0, 1) := by decide +kernel
theorem dX10_hardest_86 : decode cX10_hardest 86 = .ok (.getfield 29, 3) := by decide +kernel
theorem dX10_hardest_89 : decode cX10_hardest 89 = .ok (.iload_n 3, 1) := by decide +kernel
theorem dX10_hardest_90 : decode cX10_hardest 90 = .ok (.iconst 1, 1) := by decide +kernel
theorem dX10_hardest_91 : decode cX10_hardest 91 = .ok (.isub, 1) := by decide +kernel
theorem dX10_hardest_92 : decode cX10_hardest 92 = .ok (.aload_n 0, 1) := by decide +kernel
theorem dX10_hardest_93 : decode cX10_hardest 93 = .ok (.iload_n 1, 1) := by decide +kernel
theorem dX10_hardest_94 : decode cX10_hardest 94 = .ok (.iload_n 3, 1) := by decide +kernel
theorem dX10_hardest_95 : decode cX10_hardest 95 = .ok (.i2l, 1) := by decide +kernel
theorem dX10_hardest_96 : decode cX10_hardest 96 = .ok (.invokevirtual 95, 3) := by decide +kernel
theorem dX10_hardest_99 : decode cX10_hardest 99 = .ok (.iload_n 3, 1) := by decide +kernel
theorem dX10_hardest_100 : decode cX10_hardest 100 = .ok (.iconst 1, 1) := by decide +kernel
theorem dX10_hardest_101 : decode cX10_hardest 101 = .ok (.if_icmp .ne 7, 3) := by decide +kernel
theorem dX10_hardest_104 : decode cX10_hardest 104 = .ok (.lconst 0, 1) := by decide +kernel
theorem dX10_hardest_105 : decode cX10_hardest 105 = .ok (.goto 12, 3) := by decide +kernel
theorem dX10_hardest_108 : decode cX10_hardest 108 = .ok (.aload_n 0, 1) := by decide +kernel
theorem dX10_hardest_109 : decode cX10_hardest 109 = .ok (.iload_n 1, 1) := by decide +kernel
theorem dX10_hardest_110 : decode cX10_hardest 110 = .ok (.iload_n 3, 1) := by decide +kernel
theorem dX10_hardest_111 : decode cX10_hardest 111 = .ok (.iconst 1, 1) := by decide +kernel
theorem dX10_hardest_112 : decode cX10_hardest 112 = .ok (.isub, 1) := by decide +kernel
theorem dX10_hardest_113 : decode cX10_hardest 113 = .ok (.i2l, 1) := by decide +kernel
theorem dX10_hardest_114 : decode cX10_hardest 114 = .ok (.invokevirtual 95, 3) := by decide +kernel
theorem dX10_hardest_117 : decode cX10_hardest 117 = .ok (.lsub, 1) := by decide +kernel
theorem dX10_hardest_118 : decode cX10_hardest 118 = .ok (.lastore, 1) := by decide +kernel
theorem dX10_hardest_119 : decode cX10_hardest 119 = .ok (.iinc 3 1, 3) := by decide +kernel
theorem dX10_hardest_122 : decode cX10_hardest 122 = .ok (.goto (-42), 3) := by decide +kernel
theorem dX10_hardest_125 : decode cX10_hardest 125 = .ok (.aload_n 0, 1) := by decide +kernel
theorem dX10_hardest_126 : decode cX10_hardest 126 = .ok (.iload_n 2, 1) := by decide +kernel
theorem dX10_hardest_127 : decode cX10_hardest 127 = .ok (.putfield 147, 3) := by decide +kernel
theorem dX10_hardest_130 : decode cX10_hardest 130 = .ok (.aload_n 0, 1) := by decide +kernel
theorem dX10_hardest_131 : decode cX10_hardest 131 = .ok (.iload_n 2, 1) := by decide +kernel
theorem dX10_hardest_132 : decode cX10_hardest 132 = .ok (.invokevirtual 73, 3) := by decide +kernel
theorem dX10_hardest_135 : decode cX10_hardest 135 = .ok (.ireturn, 1) := by decide +kernel
theorem dX10_stop_0 : decode cX10_stop 0 = .ok (.aload_n 0, 1) := by decide +kernel
theorem dX10_stop_1 : decode cX10_stop 1 = .ok (.getfield 147, 3) := by decide +kernel
theorem dX10_stop_4 : decode cX10_stop 4 = .ok (.istore_n 1, 1) := by decide +kernel
theorem dX10_stop_5 : decode cX10_stop 5 = .ok (.aload_n 0, 1) := by decide +kernel
theorem dX10_stop_6 : decode cX10_stop 6 = .ok (.iconst 0, 1) := by decide +kernel
theorem dX10_stop_7 : decode cX10_stop 7 = .ok (.putfield 147, 3) := by decide +kernel
theorem dX10_stop_10 : decode cX10_stop 10 = .ok (.aload_n 0, 1) := by decide +kernel
theorem dX10_stop_11 : decode cX10_stop 11 = .ok (.iload_n 1, 1) := by decide +kernel
theorem dX10_stop_12 : decode cX10_stop 12 = .ok (.invokevirtual 73, 3) := by decide +kernel
theorem dX10_stop_15 : decode cX10_stop 15 = .ok (.ireturn, 1) := by decide +kernel
theorem dX10_serve_0 : decode cX10_serve 0 = .ok (.aload_n 0, 1) := by decide +kernel
theorem dX10_serve_1 : decode cX10_serve 1 = .ok (.iload_n 1, 1) := by decide +kernel
theorem dX10_serve_2 : decode cX10_serve 2 = .ok (.invokevirtual 109, 3) := by decide +kernel
theorem dX10_serve_5 : decode cX10_serve 5 = .ok (.ifCond .ne 9, 3) := by decide +kernel
theorem dX10_serve_8 : decode cX10_serve 8 = .ok (.aload_n 0, 1) := by decide +kernel
theorem dX10_serve_9 : decode cX10_serve 9 = .ok (.iconst (-1), 1) := by decide +kernel
theorem dX10_serve_10 : decode cX10_serve 10 = .ok (.invokevirtual 58, 3) := by decide +kernel
theorem dX10_serve_13 : decode cX10_serve 13 = .ok (.ireturn, 1) := by decide +kernel
theorem dX10_serve_14 : decode cX10_serve 14 = .ok (.aload_n 0, 1) := by decide +kernel
theorem dX10_serve_15 : decode cX10_serve 15 = .ok (.iload_n 1, 1) := by decide +kernel
theorem dX10_serve_16 : decode cX10_serve 16 = .ok (.putfield 32, 3) := by decide +kernel
theorem dX10_serve_19 : decode cX10_serve 19 = .ok (.aload_n 0, 1) := by decide +kernel
theorem dX10_serve_20 : decode cX10_serve 20 = .ok (.iconst 1, 1) := by decide +kernel
theorem dX10_serve_21 : decode cX10_serve 21 = .ok (.invokevirtual 73, 3) := by decide +kernel
theorem dX10_serve_24 : decode cX10_serve 24 = .ok (.ireturn, 1) := by decide +kernel
theorem dX10_came_0 : decode cX10_came 0 = .ok (.lconst 0, 1) := by decide +kernel
theorem dX10_came_1 : decode cX10_came 1 = .ok (.lstore_n 2, 1) := by decide +kernel
theorem dX10_came_2 : decode cX10_came 2 = .ok (.iconst 0, 1) := by decide +kernel
theorem dX10_came_3 : decode cX10_came 3 = .ok (.istore 4, 2) := by decide +kernel
theorem dX10_came_5 : decode cX10_came 5 = .ok (.iload 4, 2) := by decide +kernel
theorem dX10_came_7 : decode cX10_came 7 = .ok (.iload_n 1, 1) := by decide +kernel
theorem dX10_came_8 : decode cX10_came 8 = .ok (.if_icmp .ge 28, 3) := by decide +kernel
theorem dX10_came_11 : decode cX10_came 11 = .ok (.iload 4, 2) := by decide +kernel
theorem dX10_came_13 : decode cX10_came 13 = .ok (.aload_n 0, 1) := by decide +kernel
theorem dX10_came_14 : decode cX10_came 14 = .ok (.getfield 147, 3) := by decide +kernel
theorem dX10_came_17 : decode cX10_came 17 = .ok (.if_icmp .ge 19, 3) := by decide +kernel
theorem dX10_came_20 : decode cX10_came 20 = .ok (.lload_n 2, 1) := by decide +kernel
theorem dX10_came_21 : decode cX10_came 21 = .ok (.aload_n 0, 1) := by decide +kernel
theorem dX10_came_22 : decode cX10_came 22 = .ok (.getfield 29, 3) := by decide +kernel
theorem dX10_came_25 : decode cX10_came 25 = .ok (.iload 4, 2) := by decide +kernel
theorem dX10_came_27 : decode cX10_came 27 = .ok (.laload, 1) := by decide +kernel
theorem dX10_came_28 : decode cX10_came 28 = .ok (.ladd, 1) := by decide +kernel
theorem dX10_came_29 : decode cX10_came 29 = .ok (.lstore_n 2, 1) := by decide +kernel
theorem dX10_came_30 : decode cX10_came 30 = .ok (.iinc 4 1, 3) := by decide +kernel
theorem dX10_came_33 : decode cX10_came 33 = .ok (.goto (-28), 3) := by decide +kernel
theorem dX10_came_36 : decode cX10_came 36 = .ok (.lload_n 2, 1) := by decide +kernel
theorem dX10_came_37 : decode cX10_came 37 = .ok (.lreturn, 1) := by decide +kernel
theorem dX10_served_0 : decode cX10_served 0 = .ok (.aload_n 0, 1) := by decide +kernel
theorem dX10_served_1 : decode cX10_served 1 = .ok (.iload_n 1, 1) := by decide +kernel
theorem dX10_served_2 : decode cX10_served 2 = .ok (.invokevirtual 150, 3) := by decide +kernel
theorem dX10_served_5 : decode cX10_served 5 = .ok (.lstore_n 2, 1) := by decide +kernel
theorem dX10_served_6 : decode cX10_served 6 = .ok (.lconst 0, 1) := by decide +kernel
theorem dX10_served_7 : decode cX10_served 7 = .ok (.lstore 4, 2) := by decide +kernel
theorem dX10_served_9 : decode cX10_served 9 = .ok (.iconst 0, 1) := by decide +kernel
theorem dX10_served_10 : decode cX10_served 10 = .ok (.istore 6, 2) := by decide +kernel
theorem dX10_served_12 : decode cX10_served 12 = .ok (.iload 6, 2) := by decide +kernel
theorem dX10_served_14 : decode cX10_served 14 = .ok (.iload_n 1, 1) := by decide +kernel
theorem dX10_served_15 : decode cX10_served 15 = .ok (.if_icmp .gt 66, 3) := by decide +kernel
theorem dX10_served_18 : decode cX10_served 18 = .ok (.lload 4, 2) := by decide +kernel
theorem dX10_served_20 : decode cX10_served 20 = .ok (.aload_n 0, 1) := by decide +kernel
theorem dX10_served_21 : decode cX10_served 21 = .ok (.aload_n 0, 1) := by decide +kernel
theorem dX10_served_22 : decode cX10_served 22 = .ok (.getfield 32, 3) := by decide +kernel
theorem dX10_served_25 : decode cX10_served 25 = .ok (.iload_n 1, 1) := by decide +kernel
theorem dX10_served_26 : decode cX10_served 26 = .ok (.iload 6, 2) := by decide +kernel
theorem dX10_served_28 : decode cX10_served 28 = .ok (.isub, 1) := by decide +kernel
theorem dX10_served_29 : decode cX10_served 29 = .ok (.i2l, 1) := by decide +kernel
theorem dX10_served_30 : decode cX10_served 30 = .ok (.invokevirtual 95, 3) := by decide +kernel
theorem dX10_served_33 : decode cX10_served 33 = .ok (.ladd, 1) := by decide +kernel
theorem dX10_served_34 : decode cX10_served 34 = .ok (.lstore 7, 2) := by decide +kernel
theorem dX10_served_36 : decode cX10_served 36 = .ok (.lload 7, 2) := by decide +kernel
theorem dX10_served_38 : decode cX10_served 38 = .ok (.lload_n 2, 1) := by decide +kernel
theorem dX10_served_39 : decode cX10_served 39 = .ok (.lcmp, 1) := by decide +kernel
theorem dX10_served_40 : decode cX10_served 40 = .ok (.ifCond .ge 8, 3) := by decide +kernel
theorem dX10_served_43 : decode cX10_served 43 = .ok (.lload 7, 2) := by decide +kernel
theorem dX10_served_45 : decode cX10_served 45 = .ok (.goto 4, 3) := by decide +kernel
theorem dX10_served_48 : decode cX10_served 48 = .ok (.lload_n 2, 1) := by decide +kernel
theorem dX10_served_49 : decode cX10_served 49 = .ok (.lstore_n 2, 1) := by decide +kernel
theorem dX10_served_50 : decode cX10_served 50 = .ok (.lload 4, 2) := by decide +kernel
theorem dX10_served_52 : decode cX10_served 52 = .ok (.iload 6, 2) := by decide +kernel
theorem dX10_served_54 : decode cX10_served 54 = .ok (.aload_n 0, 1) := by decide +kernel
theorem dX10_served_55 : decode cX10_served 55 = .ok (.getfield 147, 3) := by decide +kernel
theorem dX10_served_58 : decode cX10_served 58 = .ok (.if_icmp .ge 13, 3) := by decide +kernel
theorem dX10_served_61 : decode cX10_served 61 = .ok (.aload_n 0, 1) := by decide +kernel
theorem dX10_served_62 : decode cX10_served 62 = .ok (.getfield 29, 3) := by decide +kernel
theorem dX10_served_65 : decode cX10_served 65 = .ok (.iload 6, 2) := by decide +kernel
theorem dX10_served_67 : decode cX10_served 67 = .ok (.laload, 1) := by decide +kernel
theorem dX10_served_68 : decode cX10_served 68 = .ok (.goto 4, 3) := by decide +kernel
theorem dX10_served_71 : decode cX10_served 71 = .ok (.lconst 0, 1) := by decide +kernel
theorem dX10_served_72 : decode cX10_served 72 = .ok (.ladd, 1) := by decide +kernel
theorem dX10_served_73 : decode cX10_served 73 = .ok (.lstore 4, 2) := by decide +kernel
theorem dX10_served_75 : decode cX10_served 75 = .ok (.iinc 6 1, 3) := by decide +kernel
theorem dX10_served_78 : decode cX10_served 78 = .ok (.goto (-66), 3) := by decide +kernel
theorem dX10_served_81 : decode cX10_served 81 = .ok (.lload_n 2, 1) := by decide +kernel
theorem dX10_served_82 : decode cX10_served 82 = .ok (.lreturn, 1) := by decide +kernel
theorem dX10_moved_0 : decode cX10_moved 0 = .ok (.iload_n 1, 1) := by decide +kernel
theorem dX10_moved_1 : decode cX10_moved 1 = .ok (.i2l, 1) := by decide +kernel
theorem dX10_moved_2 : decode cX10_moved 2 = .ok (.lconst 0, 1) := by decide +kernel
theorem dX10_moved_3 : decode cX10_moved 3 = .ok (.ldc2_w 153, 3) := by decide +kernel
theorem dX10_moved_6 : decode cX10_moved 6 = .ok (.invokestatic 50, 3) := by decide +kernel
theorem dX10_moved_9 : decode cX10_moved 9 = .ok (.ifCond .eq 15, 3) := by decide +kernel
theorem dX10_moved_12 : decode cX10_moved 12 = .ok (.iload_n 2, 1) := by decide +kernel
theorem dX10_moved_13 : decode cX10_moved 13 = .ok (.i2l, 1) := by decide +kernel
theorem dX10_moved_14 : decode cX10_moved 14 = .ok (.lconst 0, 1) := by decide +kernel
theorem dX10_moved_15 : decode cX10_moved 15 = .ok (.ldc2_w 155, 3) := by decide +kernel
theorem dX10_moved_18 : decode cX10_moved 18 = .ok (.invokestatic 50, 3) := by decide +kernel
theorem dX10_moved_21 : decode cX10_moved 21 = .ok (.ifCond .ne 9, 3) := by decide +kernel
theorem dX10_moved_24 : decode cX10_moved 24 = .ok (.aload_n 0, 1) := by decide +kernel
theorem dX10_moved_25 : decode cX10_moved 25 = .ok (.iconst (-1), 1) := by decide +kernel
theorem dX10_moved_26 : decode cX10_moved 26 = .ok (.invokevirtual 128, 3) := by decide +kernel
theorem dX10_moved_29 : decode cX10_moved 29 = .ok (.lreturn, 1) := by decide +kernel
theorem dX10_moved_30 : decode cX10_moved 30 = .ok (.iload_n 1, 1) := by decide +kernel
theorem dX10_moved_31 : decode cX10_moved 31 = .ok (.ifCond .le 17, 3) := by decide +kernel
theorem dX10_moved_34 : decode cX10_moved 34 = .ok (.aload_n 0, 1) := by decide +kernel
theorem dX10_moved_35 : decode cX10_moved 35 = .ok (.getfield 32, 3) := by decide +kernel
theorem dX10_moved_38 : decode cX10_moved 38 = .ok (.ifCond .ge 10, 3) := by decide +kernel
theorem dX10_moved_41 : decode cX10_moved 41 = .ok (.aload_n 0, 1) := by decide +kernel
theorem dX10_moved_42 : decode cX10_moved 42 = .ok (.bipush (-2), 2) := by decide +kernel
theorem dX10_moved_44 : decode cX10_moved 44 = .ok (.invokevirtual 128, 3) := by decide +kernel
theorem dX10_moved_47 : decode cX10_moved 47 = .ok (.lreturn, 1) := by decide +kernel
theorem dX10_moved_48 : decode cX10_moved 48 = .ok (.aload_n 0, 1) := by decide +kernel
theorem dX10_moved_49 : decode cX10_moved 49 = .ok (.iload_n 1, 1) := by decide +kernel
theorem dX10_moved_50 : decode cX10_moved 50 = .ok (.ifCond .ne 11, 3) := by decide +kernel
theorem dX10_moved_53 : decode cX10_moved 53 = .ok (.aload_n 0, 1) := by decide +kernel
theorem dX10_moved_54 : decode cX10_moved 54 = .ok (.iload_n 2, 1) := by decide +kernel
theorem dX10_moved_55 : decode cX10_moved 55 = .ok (.invokevirtual 150, 3) := by decide +kernel
theorem dX10_moved_58 : decode cX10_moved 58 = .ok (.goto 27, 3) := by decide +kernel
theorem dX10_moved_61 : decode cX10_moved 61 = .ok (.iload_n 1, 1) := by decide +kernel
theorem dX10_moved_62 : decode cX10_moved 62 = .ok (.iconst 1, 1) := by decide +kernel
theorem dX10_moved_63 : decode cX10_moved 63 = .ok (.if_icmp .ne 11, 3) := by decide +kernel
theorem dX10_moved_66 : decode cX10_moved 66 = .ok (.aload_n 0, 1) := by decide +kernel
theorem dX10_moved_67 : decode cX10_moved 67 = .ok (.iload_n 2, 1) := by decide +kernel
theorem dX10_moved_68 : decode cX10_moved 68 = .ok (.invokevirtual 157, 3) := by decide +kernel
theorem dX10_moved_71 : decode cX10_moved 71 = .ok (.goto 14, 3) := by decide +kernel
theorem dX10_moved_74 : decode cX10_moved 74 = .ok (.aload_n 0, 1) := by decide +kernel
theorem dX10_moved_75 : decode cX10_moved 75 = .ok (.iload_n 2, 1) := by decide +kernel
theorem dX10_moved_76 : decode cX10_moved 76 = .ok (.invokevirtual 150, 3) := by decide +kernel
theorem dX10_moved_79 : decode cX10_moved 79 = .ok (.aload_n 0, 1) := by decide +kernel
theorem dX10_moved_80 : decode cX10_moved 80 = .ok (.iload_n 2, 1) := by decide +kernel
theorem dX10_moved_81 : decode cX10_moved 81 = .ok (.invokevirtual 157, 3) := by decide +kernel
theorem dX10_moved_84 : decode cX10_moved 84 = .ok (.lsub, 1) := by decide +kernel
theorem dX10_moved_85 : decode cX10_moved 85 = .ok (.invokevirtual 132, 3) := by decide +kernel
theorem dX10_moved_88 : decode cX10_moved 88 = .ok (.lreturn, 1) := by decide +kernel
theorem dX10_lateAt_0 : decode cX10_lateAt 0 = .ok (.aload_n 0, 1) := by decide +kernel
theorem dX10_lateAt_1 : decode cX10_lateAt 1 = .ok (.iload_n 1, 1) := by decide +kernel
theorem dX10_lateAt_2 : decode cX10_lateAt 2 = .ok (.invokevirtual 150, 3) := by decide +kernel
theorem dX10_lateAt_5 : decode cX10_lateAt 5 = .ok (.lstore_n 2, 1) := by decide +kernel
theorem dX10_lateAt_6 : decode cX10_lateAt 6 = .ok (.iconst 0, 1) := by decide +kernel
theorem dX10_lateAt_7 : decode cX10_lateAt 7 = .ok (.istore 4, 2) := by decide +kernel
theorem dX10_lateAt_9 : decode cX10_lateAt 9 = .ok (.iload 4, 2) := by decide +kernel
theorem dX10_lateAt_11 : decode cX10_lateAt 11 = .ok (.sipush 500, 3) := by decide +kernel
theorem dX10_lateAt_14 : decode cX10_lateAt 14 = .ok (.if_icmp .gt 25, 3) := by decide +kernel
theorem dX10_lateAt_17 : decode cX10_lateAt 17 = .ok (.aload_n 0, 1) := by decide +kernel
theorem dX10_lateAt_18 : decode cX10_lateAt 18 = .ok (.iload_n 1, 1) := by decide +kernel
theorem dX10_lateAt_19 : decode cX10_lateAt 19 = .ok (.iload 4, 2) := by decide +kernel
theorem dX10_lateAt_21 : decode cX10_lateAt 21 = .ok (.iadd, 1) := by decide +kernel
theorem dX10_lateAt_22 : decode cX10_lateAt 22 = .ok (.invokevirtual 157, 3) := by decide +kernel
theorem dX10_lateAt_25 : decode cX10_lateAt 25 = .ok (.lload_n 2, 1) := by decide +kernel
theorem dX10_lateAt_26 : decode cX10_lateAt 26 = .ok (.lcmp, 1) := by decide +kernel
theorem dX10_lateAt_27 : decode cX10_lateAt 27 = .ok (.ifCond .lt 6, 3) := by decide +kernel
theorem dX10_lateAt_30 : decode cX10_lateAt 30 = .ok (.iload 4, 2) := by decide +kernel
theorem dX10_lateAt_32 : decode cX10_lateAt 32 = .ok (.ireturn, 1) := by decide +kernel
theorem dX10_lateAt_33 : decode cX10_lateAt 33 = .ok (.iinc 4 1, 3) := by decide +kernel
theorem dX10_lateAt_36 : decode cX10_lateAt 36 = .ok (.goto (-27), 3) := by decide +kernel
theorem dX10_lateAt_39 : decode cX10_lateAt 39 = .ok (.iconst (-1), 1) := by decide +kernel
theorem dX10_lateAt_40 : decode cX10_lateAt 40 = .ok (.ireturn, 1) := by decide +kernel
theorem dX10_late_0 : decode cX10_late 0 = .ok (.iload_n 1, 1) := by decide +kernel
theorem dX10_late_1 : decode cX10_late 1 = .ok (.i2l, 1) := by decide +kernel
theorem dX10_late_2 : decode cX10_late 2 = .ok (.lconst 0, 1) := by decide +kernel
theorem dX10_late_3 : decode cX10_late 3 = .ok (.aload_n 0, 1) := by decide +kernel
theorem dX10_late_4 : decode cX10_late 4 = .ok (.getfield 147, 3) := by decide +kernel
theorem dX10_late_7 : decode cX10_late 7 = .ok (.i2l, 1) := by decide +kernel
theorem dX10_late_8 : decode cX10_late 8 = .ok (.invokestatic 50, 3) := by decide +kernel
theorem dX10_late_11 : decode cX10_late 11 = .ok (.ifCond .ne 9, 3) := by decide +kernel
theorem dX10_late_14 : decode cX10_late 14 = .ok (.aload_n 0, 1) := by decide +kernel
theorem dX10_late_15 : decode cX10_late 15 = .ok (.iconst (-1), 1) := by decide +kernel
theorem dX10_late_16 : decode cX10_late 16 = .ok (.invokevirtual 58, 3) := by decide +kernel
theorem dX10_late_19 : decode cX10_late 19 = .ok (.ireturn, 1) := by decide +kernel
theorem dX10_late_20 : decode cX10_late 20 = .ok (.aload_n 0, 1) := by decide +kernel
theorem dX10_late_21 : decode cX10_late 21 = .ok (.getfield 32, 3) := by decide +kernel
theorem dX10_late_24 : decode cX10_late 24 = .ok (.ifCond .ge 10, 3) := by decide +kernel
theorem dX10_late_27 : decode cX10_late 27 = .ok (.aload_n 0, 1) := by decide +kernel
theorem dX10_late_28 : decode cX10_late 28 = .ok (.bipush (-2), 2) := by decide +kernel
theorem dX10_late_30 : decode cX10_late 30 = .ok (.invokevirtual 58, 3) := by decide +kernel
theorem dX10_late_33 : decode cX10_late 33 = .ok (.ireturn, 1) := by decide +kernel
theorem dX10_late_34 : decode cX10_late 34 = .ok (.aload_n 0, 1) := by decide +kernel
theorem dX10_late_35 : decode cX10_late 35 = .ok (.iload_n 1, 1) := by decide +kernel
theorem dX10_late_36 : decode cX10_late 36 = .ok (.invokevirtual 160, 3) := by decide +kernel
theorem dX10_late_39 : decode cX10_late 39 = .ok (.istore_n 2, 1) := by decide +kernel
theorem dX10_late_40 : decode cX10_late 40 = .ok (.iload_n 2, 1) := by decide +kernel
theorem dX10_late_41 : decode cX10_late 41 = .ok (.ifCond .ge 12, 3) := by decide +kernel
theorem dX10_late_44 : decode cX10_late 44 = .ok (.aload_n 0, 1) := by decide +kernel
theorem dX10_late_45 : decode cX10_late 45 = .ok (.bipush (-5), 2) := by decide +kernel
theorem dX10_late_47 : decode cX10_late 47 = .ok (.invokevirtual 58, 3) := by decide +kernel
theorem dX10_late_50 : decode cX10_late 50 = .ok (.goto 8, 3) := by decide +kernel
theorem dX10_late_53 : decode cX10_late 53 = .ok (.aload_n 0, 1) := by decide +kernel
theorem dX10_late_54 : decode cX10_late 54 = .ok (.iload_n 2, 1) := by decide +kernel
theorem dX10_late_55 : decode cX10_late 55 = .ok (.invokevirtual 73, 3) := by decide +kernel
theorem dX10_late_58 : decode cX10_late 58 = .ok (.ireturn, 1) := by decide +kernel
theorem dX10_mostHeld_0 : decode cX10_mostHeld 0 = .ok (.aload_n 0, 1) := by decide +kernel
theorem dX10_mostHeld_1 : decode cX10_mostHeld 1 = .ok (.getfield 32, 3) := by decide +kernel
theorem dX10_mostHeld_4 : decode cX10_mostHeld 4 = .ok (.ifCond .ge 10, 3) := by decide +kernel
theorem dX10_mostHeld_7 : decode cX10_mostHeld 7 = .ok (.aload_n 0, 1) := by decide +kernel
theorem dX10_mostHeld_8 : decode cX10_mostHeld 8 = .ok (.bipush (-2), 2) := by decide +kernel
theorem dX10_mostHeld_10 : decode cX10_mostHeld 10 = .ok (.invokevirtual 128, 3) := by decide +kernel
theorem dX10_mostHeld_13 : decode cX10_mostHeld 13 = .ok (.lreturn, 1) := by decide +kernel
theorem dX10_mostHeld_14 : decode cX10_mostHeld 14 = .ok (.lconst 0, 1) := by decide +kernel
theorem dX10_mostHeld_15 : decode cX10_mostHeld 15 = .ok (.lstore_n 1, 1) := by decide +kernel
theorem dX10_mostHeld_16 : decode cX10_mostHeld 16 = .ok (.iconst 0, 1) := by decide +kernel
theorem dX10_mostHeld_17 : decode cX10_mostHeld 17 = .ok (.istore_n 3, 1) := by decide +kernel
theorem dX10_mostHeld_18 : decode cX10_mostHeld 18 = .ok (.iload_n 3, 1) := by decide +kernel
theorem dX10_mostHeld_19 : decode cX10_mostHeld 19 = .ok (.aload_n 0, 1) := by decide +kernel
theorem dX10_mostHeld_20 : decode cX10_mostHeld 20 = .ok (.getfield 147, 3) := by decide +kernel
theorem dX10_mostHeld_23 : decode cX10_mostHeld 23 = .ok (.if_icmp .gt 36, 3) := by decide +kernel
theorem dX10_mostHeld_26 : decode cX10_mostHeld 26 = .ok (.aload_n 0, 1) := by decide +kernel
theorem dX10_mostHeld_27 : decode cX10_mostHeld 27 = .ok (.iload_n 3, 1) := by decide +kernel
theorem dX10_mostHeld_28 : decode cX10_mostHeld 28 = .ok (.invokevirtual 150, 3) := by decide +kernel
theorem dX10_mostHeld_31 : decode cX10_mostHeld 31 = .ok (.aload_n 0, 1) := by decide +kernel
theorem dX10_mostHeld_32 : decode cX10_mostHeld 32 = .ok (.iload_n 3, 1) := by decide +kernel
theorem dX10_mostHeld_33 : decode cX10_mostHeld 33 = .ok (.invokevirtual 157, 3) := by decide +kernel
theorem dX10_mostHeld_36 : decode cX10_mostHeld 36 = .ok (.lsub, 1) := by decide +kernel
theorem dX10_mostHeld_37 : decode cX10_mostHeld 37 = .ok (.lstore 4, 2) := by decide +kernel
theorem dX10_mostHeld_39 : decode cX10_mostHeld 39 = .ok (.lload 4, 2) := by decide +kernel
theorem dX10_mostHeld_41 : decode cX10_mostHeld 41 = .ok (.lload_n 1, 1) := by decide +kernel
theorem dX10_mostHeld_42 : decode cX10_mostHeld 42 = .ok (.lcmp, 1) := by decide +kernel
theorem dX10_mostHeld_43 : decode cX10_mostHeld 43 = .ok (.ifCond .le 8, 3) := by decide +kernel
theorem dX10_mostHeld_46 : decode cX10_mostHeld 46 = .ok (.lload 4, 2) := by decide +kernel
theorem dX10_mostHeld_48 : decode cX10_mostHeld 48 = .ok (.goto 4, 3) := by decide +kernel
theorem dX10_mostHeld_51 : decode cX10_mostHeld 51 = .ok (.lload_n 1, 1) := by decide +kernel
theorem dX10_mostHeld_52 : decode cX10_mostHeld 52 = .ok (.lstore_n 1, 1) := by decide +kernel
theorem dX10_mostHeld_53 : decode cX10_mostHeld 53 = .ok (.iinc 3 1, 3) := by decide +kernel
theorem dX10_mostHeld_56 : decode cX10_mostHeld 56 = .ok (.goto (-38), 3) := by decide +kernel
theorem dX10_mostHeld_59 : decode cX10_mostHeld 59 = .ok (.aload_n 0, 1) := by decide +kernel
theorem dX10_mostHeld_60 : decode cX10_mostHeld 60 = .ok (.lload_n 1, 1) := by decide +kernel
theorem dX10_mostHeld_61 : decode cX10_mostHeld 61 = .ok (.invokevirtual 132, 3) := by decide +kernel
theorem dX10_mostHeld_64 : decode cX10_mostHeld 64 = .ok (.lreturn, 1) := by decide +kernel
theorem dX10_mostLate_0 : decode cX10_mostLate 0 = .ok (.aload_n 0, 1) := by decide +kernel
theorem dX10_mostLate_1 : decode cX10_mostLate 1 = .ok (.getfield 32, 3) := by decide +kernel
theorem dX10_mostLate_4 : decode cX10_mostLate 4 = .ok (.ifCond .ge 10, 3) := by decide +kernel
theorem dX10_mostLate_7 : decode cX10_mostLate 7 = .ok (.aload_n 0, 1) := by decide +kernel
theorem dX10_mostLate_8 : decode cX10_mostLate 8 = .ok (.bipush (-2), 2) := by decide +kernel
theorem dX10_mostLate_10 : decode cX10_mostLate 10 = .ok (.invokevirtual 58, 3) := by decide +kernel
theorem dX10_mostLate_13 : decode cX10_mostLate 13 = .ok (.ireturn, 1) := by decide +kernel
theorem dX10_mostLate_14 : decode cX10_mostLate 14 = .ok (.iconst 0, 1) := by decide +kernel
theorem dX10_mostLate_15 : decode cX10_mostLate 15 = .ok (.istore_n 1, 1) := by decide +kernel
theorem dX10_mostLate_16 : decode cX10_mostLate 16 = .ok (.iconst 0, 1) := by decide +kernel
theorem dX10_mostLate_17 : decode cX10_mostLate 17 = .ok (.istore_n 2, 1) := by decide +kernel
theorem dX10_mostLate_18 : decode cX10_mostLate 18 = .ok (.iload_n 2, 1) := by decide +kernel
theorem dX10_mostLate_19 : decode cX10_mostLate 19 = .ok (.aload_n 0, 1) := by decide +kernel
theorem dX10_mostLate_20 : decode cX10_mostLate 20 = .ok (.getfield 147, 3) := by decide +kernel
theorem dX10_mostLate_23 : decode cX10_mostLate 23 = .ok (.if_icmp .gt 37, 3) := by decide +kernel
theorem dX10_mostLate_26 : decode cX10_mostLate 26 = .ok (.aload_n 0, 1) := by decide +kernel
theorem dX10_mostLate_27 : decode cX10_mostLate 27 = .ok (.iload_n 2, 1) := by decide +kernel
theorem dX10_mostLate_28 : decode cX10_mostLate 28 = .ok (.invokevirtual 160, 3) := by decide +kernel
theorem dX10_mostLate_31 : decode cX10_mostLate 31 = .ok (.istore_n 3, 1) := by decide +kernel
theorem dX10_mostLate_32 : decode cX10_mostLate 32 = .ok (.iload_n 3, 1) := by decide +kernel
theorem dX10_mostLate_33 : decode cX10_mostLate 33 = .ok (.ifCond .ge 10, 3) := by decide +kernel
theorem dX10_mostLate_36 : decode cX10_mostLate 36 = .ok (.aload_n 0, 1) := by decide +kernel
theorem dX10_mostLate_37 : decode cX10_mostLate 37 = .ok (.bipush (-5), 2) := by decide +kernel
theorem dX10_mostLate_39 : decode cX10_mostLate 39 = .ok (.invokevirtual 58, 3) := by decide +kernel
theorem dX10_mostLate_42 : decode cX10_mostLate 42 = .ok (.ireturn, 1) := by decide +kernel
theorem dX10_mostLate_43 : decode cX10_mostLate 43 = .ok (.iload_n 3, 1) := by decide +kernel
theorem dX10_mostLate_44 : decode cX10_mostLate 44 = .ok (.iload_n 1, 1) := by decide +kernel
theorem dX10_mostLate_45 : decode cX10_mostLate 45 = .ok (.if_icmp .le 7, 3) := by decide +kernel
theorem dX10_mostLate_48 : decode cX10_mostLate 48 = .ok (.iload_n 3, 1) := by decide +kernel
theorem dX10_mostLate_49 : decode cX10_mostLate 49 = .ok (.goto 4, 3) := by decide +kernel
theorem dX10_mostLate_52 : decode cX10_mostLate 52 = .ok (.iload_n 1, 1) := by decide +kernel
theorem dX10_mostLate_53 : decode cX10_mostLate 53 = .ok (.istore_n 1, 1) := by decide +kernel
theorem dX10_mostLate_54 : decode cX10_mostLate 54 = .ok (.iinc 2 1, 3) := by decide +kernel
theorem dX10_mostLate_57 : decode cX10_mostLate 57 = .ok (.goto (-39), 3) := by decide +kernel
theorem dX10_mostLate_60 : decode cX10_mostLate 60 = .ok (.aload_n 0, 1) := by decide +kernel
theorem dX10_mostLate_61 : decode cX10_mostLate 61 = .ok (.iload_n 1, 1) := by decide +kernel
theorem dX10_mostLate_62 : decode cX10_mostLate 62 = .ok (.invokevirtual 73, 3) := by decide +kernel
theorem dX10_mostLate_65 : decode cX10_mostLate 65 = .ok (.ireturn, 1) := by decide +kernel
theorem dX10_keeps_0 : decode cX10_keeps 0 = .ok (.aload_n 0, 1) := by decide +kernel
theorem dX10_keeps_1 : decode cX10_keeps 1 = .ok (.iload_n 1, 1) := by decide +kernel
theorem dX10_keeps_2 : decode cX10_keeps 2 = .ok (.invokevirtual 109, 3) := by decide +kernel
theorem dX10_keeps_5 : decode cX10_keeps 5 = .ok (.ifCond .ne 9, 3) := by decide +kernel
theorem dX10_keeps_8 : decode cX10_keeps 8 = .ok (.aload_n 0, 1) := by decide +kernel
theorem dX10_keeps_9 : decode cX10_keeps 9 = .ok (.iconst (-1), 1) := by decide +kernel
theorem dX10_keeps_10 : decode cX10_keeps 10 = .ok (.invokevirtual 58, 3) := by decide +kernel
theorem dX10_keeps_13 : decode cX10_keeps 13 = .ok (.ireturn, 1) := by decide +kernel
theorem dX10_keeps_14 : decode cX10_keeps 14 = .ok (.iconst 1, 1) := by decide +kernel
theorem dX10_keeps_15 : decode cX10_keeps 15 = .ok (.istore_n 2, 1) := by decide +kernel
theorem dX10_keeps_16 : decode cX10_keeps 16 = .ok (.iconst 0, 1) := by decide +kernel
theorem dX10_keeps_17 : decode cX10_keeps 17 = .ok (.istore_n 3, 1) := by decide +kernel
theorem dX10_keeps_18 : decode cX10_keeps 18 = .ok (.iload_n 3, 1) := by decide +kernel
theorem dX10_keeps_19 : decode cX10_keeps 19 = .ok (.aload_n 0, 1) := by decide +kernel
theorem dX10_keeps_20 : decode cX10_keeps 20 = .ok (.getfield 147, 3) := by decide +kernel
theorem dX10_keeps_23 : decode cX10_keeps 23 = .ok (.if_icmp .gt 64, 3) := by decide +kernel
theorem dX10_keeps_26 : decode cX10_keeps 26 = .ok (.iload_n 2, 1) := by decide +kernel
theorem dX10_keeps_27 : decode cX10_keeps 27 = .ok (.ifCond .eq 60, 3) := by decide +kernel
theorem dX10_keeps_30 : decode cX10_keeps 30 = .ok (.iconst 0, 1) := by decide +kernel
theorem dX10_keeps_31 : decode cX10_keeps 31 = .ok (.istore 4, 2) := by decide +kernel
theorem dX10_keeps_33 : decode cX10_keeps 33 = .ok (.iload 4, 2) := by decide +kernel
theorem dX10_keeps_35 : decode cX10_keeps 35 = .ok (.iload_n 3, 1) := by decide +kernel
theorem dX10_keeps_36 : decode cX10_keeps 36 = .ok (.if_icmp .gt 45, 3) := by decide +kernel
theorem dX10_keeps_39 : decode cX10_keeps 39 = .ok (.iload_n 2, 1) := by decide +kernel
theorem dX10_keeps_40 : decode cX10_keeps 40 = .ok (.ifCond .eq 41, 3) := by decide +kernel
theorem dX10_keeps_43 : decode cX10_keeps 43 = .ok (.aload_n 0, 1) := by decide +kernel
theorem dX10_keeps_44 : decode cX10_keeps 44 = .ok (.iload_n 3, 1) := by decide +kernel
theorem dX10_keeps_45 : decode cX10_keeps 45 = .ok (.invokevirtual 150, 3) := by decide +kernel
theorem dX10_keeps_48 : decode cX10_keeps 48 = .ok (.aload_n 0, 1) := by decide +kernel
theorem dX10_keeps_49 : decode cX10_keeps 49 = .ok (.iload 4, 2) := by decide +kernel
theorem dX10_keeps_51 : decode cX10_keeps 51 = .ok (.invokevirtual 150, 3) := by decide +kernel
theorem dX10_keeps_54 : decode cX10_keeps 54 = .ok (.lsub, 1) := by decide +kernel
theorem dX10_keeps_55 : decode cX10_keeps 55 = .ok (.aload_n 0, 1) := by decide +kernel
theorem dX10_keeps_56 : decode cX10_keeps 56 = .ok (.iload_n 1, 1) := by decide +kernel
theorem dX10_keeps_57 : decode cX10_keeps 57 = .ok (.iload_n 3, 1) := by decide +kernel
theorem dX10_keeps_58 : decode cX10_keeps 58 = .ok (.iload 4, 2) := by decide +kernel
theorem dX10_keeps_60 : decode cX10_keeps 60 = .ok (.isub, 1) := by decide +kernel
theorem dX10_keeps_61 : decode cX10_keeps 61 = .ok (.i2l, 1) := by decide +kernel
theorem dX10_keeps_62 : decode cX10_keeps 62 = .ok (.invokevirtual 95, 3) := by decide +kernel
theorem dX10_keeps_65 : decode cX10_keeps 65 = .ok (.lcmp, 1) := by decide +kernel
theorem dX10_keeps_66 : decode cX10_keeps 66 = .ok (.ifCond .gt 7, 3) := by decide +kernel
theorem dX10_keeps_69 : decode cX10_keeps 69 = .ok (.iconst 1, 1) := by decide +kernel
theorem dX10_keeps_70 : decode cX10_keeps 70 = .ok (.goto 4, 3) := by decide +kernel
theorem dX10_keeps_73 : decode cX10_keeps 73 = .ok (.iconst 0, 1) := by decide +kernel
theorem dX10_keeps_74 : decode cX10_keeps 74 = .ok (.istore_n 2, 1) := by decide +kernel
theorem dX10_keeps_75 : decode cX10_keeps 75 = .ok (.iinc 4 1, 3) := by decide +kernel
theorem dX10_keeps_78 : decode cX10_keeps 78 = .ok (.goto (-45), 3) := by decide +kernel
theorem dX10_keeps_81 : decode cX10_keeps 81 = .ok (.iinc 3 1, 3) := by decide +kernel
theorem dX10_keeps_84 : decode cX10_keeps 84 = .ok (.goto (-66), 3) := by decide +kernel
theorem dX10_keeps_87 : decode cX10_keeps 87 = .ok (.aload_n 0, 1) := by decide +kernel
theorem dX10_keeps_88 : decode cX10_keeps 88 = .ok (.iload_n 2, 1) := by decide +kernel
theorem dX10_keeps_89 : decode cX10_keeps 89 = .ok (.ifCond .eq 7, 3) := by decide +kernel
theorem dX10_keeps_92 : decode cX10_keeps 92 = .ok (.iconst 1, 1) := by decide +kernel
theorem dX10_keeps_93 : decode cX10_keeps 93 = .ok (.goto 4, 3) := by decide +kernel
theorem dX10_keeps_96 : decode cX10_keeps 96 = .ok (.iconst 0, 1) := by decide +kernel
theorem dX10_keeps_97 : decode cX10_keeps 97 = .ok (.invokevirtual 73, 3) := by decide +kernel
theorem dX10_keeps_100 : decode cX10_keeps 100 = .ok (.ireturn, 1) := by decide +kernel
theorem dX10_count_0 : decode cX10_count 0 = .ok (.iload_n 1, 1) := by decide +kernel
theorem dX10_count_1 : decode cX10_count 1 = .ok (.tableswitch 68 0 4 #[35, 40, 45, 50, 55], 35) := by decide +kernel
theorem dX10_count_36 : decode cX10_count 36 = .ok (.aload_n 0, 1) := by decide +kernel
theorem dX10_count_37 : decode cX10_count 37 = .ok (.getfield 47, 3) := by decide +kernel
theorem dX10_count_40 : decode cX10_count 40 = .ok (.ireturn, 1) := by decide +kernel
theorem dX10_count_41 : decode cX10_count 41 = .ok (.aload_n 0, 1) := by decide +kernel
theorem dX10_count_42 : decode cX10_count 42 = .ok (.getfield 76, 3) := by decide +kernel
theorem dX10_count_45 : decode cX10_count 45 = .ok (.ireturn, 1) := by decide +kernel
theorem dX10_count_46 : decode cX10_count 46 = .ok (.aload_n 0, 1) := by decide +kernel
theorem dX10_count_47 : decode cX10_count 47 = .ok (.getfield 147, 3) := by decide +kernel
theorem dX10_count_50 : decode cX10_count 50 = .ok (.ireturn, 1) := by decide +kernel
theorem dX10_count_51 : decode cX10_count 51 = .ok (.aload_n 0, 1) := by decide +kernel
theorem dX10_count_52 : decode cX10_count 52 = .ok (.getfield 32, 3) := by decide +kernel
theorem dX10_count_55 : decode cX10_count 55 = .ok (.ireturn, 1) := by decide +kernel
theorem dX10_count_56 : decode cX10_count 56 = .ok (.aload_n 0, 1) := by decide +kernel
theorem dX10_count_57 : decode cX10_count 57 = .ok (.getfield 69, 3) := by decide +kernel
theorem dX10_count_60 : decode cX10_count 60 = .ok (.ifCond .eq 7, 3) := by decide +kernel
theorem dX10_count_63 : decode cX10_count 63 = .ok (.iconst 1, 1) := by decide +kernel
theorem dX10_count_64 : decode cX10_count 64 = .ok (.goto 4, 3) := by decide +kernel
theorem dX10_count_67 : decode cX10_count 67 = .ok (.iconst 0, 1) := by decide +kernel
theorem dX10_count_68 : decode cX10_count 68 = .ok (.ireturn, 1) := by decide +kernel
theorem dX10_count_69 : decode cX10_count 69 = .ok (.iconst (-1), 1) := by decide +kernel
theorem dX10_count_70 : decode cX10_count 70 = .ok (.ireturn, 1) := by decide +kernel
theorem dX10_trace_0 : decode cX10_trace 0 = .ok (.iload_n 1, 1) := by decide +kernel
theorem dX10_trace_1 : decode cX10_trace 1 = .ok (.i2l, 1) := by decide +kernel
theorem dX10_trace_2 : decode cX10_trace 2 = .ok (.lconst 0, 1) := by decide +kernel
theorem dX10_trace_3 : decode cX10_trace 3 = .ok (.ldc2_w 136, 3) := by decide +kernel
theorem dX10_trace_6 : decode cX10_trace 6 = .ok (.invokestatic 50, 3) := by decide +kernel
theorem dX10_trace_9 : decode cX10_trace 9 = .ok (.ifCond .eq 12, 3) := by decide +kernel
theorem dX10_trace_12 : decode cX10_trace 12 = .ok (.aload_n 0, 1) := by decide +kernel
theorem dX10_trace_13 : decode cX10_trace 13 = .ok (.getfield 36, 3) := by decide +kernel
theorem dX10_trace_16 : decode cX10_trace 16 = .ok (.iload_n 1, 1) := by decide +kernel
theorem dX10_trace_17 : decode cX10_trace 17 = .ok (.iaload, 1) := by decide +kernel
theorem dX10_trace_18 : decode cX10_trace 18 = .ok (.goto 4, 3) := by decide +kernel
theorem dX10_trace_21 : decode cX10_trace 21 = .ok (.iconst (-1), 1) := by decide +kernel
theorem dX10_trace_22 : decode cX10_trace 22 = .ok (.ireturn, 1) := by decide +kernel
theorem dX10_status_0 : decode cX10_status 0 = .ok (.aload_n 0, 1) := by decide +kernel
theorem dX10_status_1 : decode cX10_status 1 = .ok (.getfield 42, 3) := by decide +kernel
theorem dX10_status_4 : decode cX10_status 4 = .ok (.ireturn, 1) := by decide +kernel
theorem dX10_clear_0 : decode cX10_clear 0 = .ok (.aload_n 0, 1) := by decide +kernel
theorem dX10_clear_1 : decode cX10_clear 1 = .ok (.iconst 0, 1) := by decide +kernel
theorem dX10_clear_2 : decode cX10_clear 2 = .ok (.putfield 47, 3) := by decide +kernel
theorem dX10_clear_5 : decode cX10_clear 5 = .ok (.aload_n 0, 1) := by decide +kernel
theorem dX10_clear_6 : decode cX10_clear 6 = .ok (.iconst 0, 1) := by decide +kernel
theorem dX10_clear_7 : decode cX10_clear 7 = .ok (.putfield 69, 3) := by decide +kernel
theorem dX10_clear_10 : decode cX10_clear 10 = .ok (.aload_n 0, 1) := by decide +kernel
theorem dX10_clear_11 : decode cX10_clear 11 = .ok (.iconst 0, 1) := by decide +kernel
theorem dX10_clear_12 : decode cX10_clear 12 = .ok (.putfield 76, 3) := by decide +kernel
theorem dX10_clear_15 : decode cX10_clear 15 = .ok (.aload_n 0, 1) := by decide +kernel
theorem dX10_clear_16 : decode cX10_clear 16 = .ok (.iconst 0, 1) := by decide +kernel
theorem dX10_clear_17 : decode cX10_clear 17 = .ok (.putfield 147, 3) := by decide +kernel
theorem dX10_clear_20 : decode cX10_clear 20 = .ok (.aload_n 0, 1) := by decide +kernel
theorem dX10_clear_21 : decode cX10_clear 21 = .ok (.iconst (-1), 1) := by decide +kernel
theorem dX10_clear_22 : decode cX10_clear 22 = .ok (.putfield 32, 3) := by decide +kernel
theorem dX10_clear_25 : decode cX10_clear 25 = .ok (.aload_n 0, 1) := by decide +kernel
theorem dX10_clear_26 : decode cX10_clear 26 = .ok (.iconst 1, 1) := by decide +kernel
theorem dX10_clear_27 : decode cX10_clear 27 = .ok (.invokevirtual 73, 3) := by decide +kernel
theorem dX10_clear_30 : decode cX10_clear 30 = .ok (.ireturn, 1) := by decide +kernel
end
section
theorem dL_law_0 : decode cL_law 0 = .ok (.new 7, 3) := by decide +kernel
theorem dL_law_3 : decode cL_law 3 = .ok (.dup, 1) := by decide +kernel
theorem dL_law_4 : decode cL_law 4 = .ok (.invokespecial 9, 3) := by decide +kernel
theorem dL_law_7 : decode cL_law 7 = .ok (.astore_n 1, 1) := by decide +kernel
theorem dL_law_8 : decode cL_law 8 = .ok (.new 10, 3) := by decide +kernel
theorem dL_law_11 : decode cL_law 11 = .ok (.dup, 1) := by decide +kernel
theorem dL_law_12 : decode cL_law 12 = .ok (.invokespecial 12, 3) := by decide +kernel
theorem dL_law_15 : decode cL_law 15 = .ok (.astore_n 2, 1) := by decide +kernel
theorem dL_law_16 : decode cL_law 16 = .ok (.iconst 0, 1) := by decide +kernel
theorem dL_law_17 : decode cL_law 17 = .ok (.istore_n 3, 1) := by decide +kernel
theorem dL_law_18 : decode cL_law 18 = .ok (.iload_n 3, 1) := by decide +kernel
theorem dL_law_19 : decode cL_law 19 = .ok (.aload_n 0, 1) := by decide +kernel
theorem dL_law_20 : decode cL_law 20 = .ok (.arraylength, 1) := by decide +kernel
theorem dL_law_21 : decode cL_law 21 = .ok (.iconst 4, 1) := by decide +kernel
theorem dL_law_22 : decode cL_law 22 = .ok (.isub, 1) := by decide +kernel
theorem dL_law_23 : decode cL_law 23 = .ok (.if_icmp .gt 1005, 3) := by decide +kernel
theorem dL_law_26 : decode cL_law 26 = .ok (.aload_n 0, 1) := by decide +kernel
theorem dL_law_27 : decode cL_law 27 = .ok (.iload_n 3, 1) := by decide +kernel
theorem dL_law_28 : decode cL_law 28 = .ok (.iaload, 1) := by decide +kernel
theorem dL_law_29 : decode cL_law 29 = .ok (.bipush 31, 2) := by decide +kernel
theorem dL_law_31 : decode cL_law 31 = .ok (.iand, 1) := by decide +kernel
theorem dL_law_32 : decode cL_law 32 = .ok (.tableswitch 990 0 29 #[136, 189, 232, 245, 278, 301, 344, 377, 410, 423, 457, 490, 523, 556, 589, 652, 686, 719, 742, 775, 788, 811, 845, 868, 882, 895, 918, 941, 964, 977], 136) := by decide +kernel
theorem dL_law_168 : decode cL_law 168 = .ok (.aload_n 1, 1) := by decide +kernel
theorem dL_law_169 : decode cL_law 169 = .ok (.aload_n 0, 1) := by decide +kernel
theorem dL_law_170 : decode cL_law 170 = .ok (.iload_n 3, 1) := by decide +kernel
theorem dL_law_171 : decode cL_law 171 = .ok (.iconst 1, 1) := by decide +kernel
theorem dL_law_172 : decode cL_law 172 = .ok (.iadd, 1) := by decide +kernel
theorem dL_law_173 : decode cL_law 173 = .ok (.iaload, 1) := by decide +kernel
theorem dL_law_174 : decode cL_law 174 = .ok (.i2l, 1) := by decide +kernel
theorem dL_law_175 : decode cL_law 175 = .ok (.bipush 32, 2) := by decide +kernel
theorem dL_law_177 : decode cL_law 177 = .ok (.lshl, 1) := by decide +kernel
theorem dL_law_178 : decode cL_law 178 = .ok (.aload_n 0, 1) := by decide +kernel
theorem dL_law_179 : decode cL_law 179 = .ok (.iload_n 3, 1) := by decide +kernel
theorem dL_law_180 : decode cL_law 180 = .ok (.iconst 2, 1) := by decide +kernel
theorem dL_law_181 : decode cL_law 181 = .ok (.iadd, 1) := by decide +kernel
theorem dL_law_182 : decode cL_law 182 = .ok (.iaload, 1) := by decide +kernel
theorem dL_law_183 : decode cL_law 183 = .ok (.i2l, 1) := by decide +kernel
theorem dL_law_184 : decode cL_law 184 = .ok (.ldc2_w 13, 3) := by decide +kernel
theorem dL_law_187 : decode cL_law 187 = .ok (.land, 1) := by decide +kernel
theorem dL_law_188 : decode cL_law 188 = .ok (.lor, 1) := by decide +kernel
theorem dL_law_189 : decode cL_law 189 = .ok (.invokevirtual 15, 3) := by decide +kernel
theorem dL_law_192 : decode cL_law 192 = .ok (.aload_n 2, 1) := by decide +kernel
theorem dL_law_193 : decode cL_law 193 = .ok (.aload_n 0, 1) := by decide +kernel
theorem dL_law_194 : decode cL_law 194 = .ok (.iload_n 3, 1) := by decide +kernel
theorem dL_law_195 : decode cL_law 195 = .ok (.iconst 1, 1) := by decide +kernel
theorem dL_law_196 : decode cL_law 196 = .ok (.iadd, 1) := by decide +kernel
theorem dL_law_197 : decode cL_law 197 = .ok (.iaload, 1) := by decide +kernel
theorem dL_law_198 : decode cL_law 198 = .ok (.i2l, 1) := by decide +kernel
theorem dL_law_199 : decode cL_law 199 = .ok (.bipush 32, 2) := by decide +kernel
theorem dL_law_201 : decode cL_law 201 = .ok (.lshl, 1) := by decide +kernel
theorem dL_law_202 : decode cL_law 202 = .ok (.aload_n 0, 1) := by decide +kernel
theorem dL_law_203 : decode cL_law 203 = .ok (.iload_n 3, 1) := by decide +kernel
theorem dL_law_204 : decode cL_law 204 = .ok (.iconst 2, 1) := by decide +kernel
theorem dL_law_205 : decode cL_law 205 = .ok (.iadd, 1) := by decide +kernel
theorem dL_law_206 : decode cL_law 206 = .ok (.iaload, 1) := by decide +kernel
theorem dL_law_207 : decode cL_law 207 = .ok (.i2l, 1) := by decide +kernel
theorem dL_law_208 : decode cL_law 208 = .ok (.ldc2_w 13, 3) := by decide +kernel
theorem dL_law_211 : decode cL_law 211 = .ok (.land, 1) := by decide +kernel
theorem dL_law_212 : decode cL_law 212 = .ok (.lor, 1) := by decide +kernel
theorem dL_law_213 : decode cL_law 213 = .ok (.invokevirtual 19, 3) := by decide +kernel
theorem dL_law_216 : decode cL_law 216 = .ok (.if_icmp .eq 806, 3) := by decide +kernel
theorem dL_law_219 : decode cL_law 219 = .ok (.iconst 0, 1) := by decide +kernel
theorem dL_law_220 : decode cL_law 220 = .ok (.ireturn, 1) := by decide +kernel
theorem dL_law_221 : decode cL_law 221 = .ok (.aload_n 1, 1) := by decide +kernel
theorem dL_law_222 : decode cL_law 222 = .ok (.aload_n 0, 1) := by decide +kernel
theorem dL_law_223 : decode cL_law 223 = .ok (.iload_n 3, 1) := by decide +kernel
theorem dL_law_224 : decode cL_law 224 = .ok (.iconst 1, 1) := by decide +kernel
theorem dL_law_225 : decode cL_law 225 = .ok (.iadd, 1) := by decide +kernel
theorem dL_law_226 : decode cL_law 226 = .ok (.iaload, 1) := by decide +kernel
theorem dL_law_227 : decode cL_law 227 = .ok (.aload_n 0, 1) := by decide +kernel
theorem dL_law_228 : decode cL_law 228 = .ok (.iload_n 3, 1) := by decide +kernel
theorem dL_law_229 : decode cL_law 229 = .ok (.iconst 2, 1) := by decide +kernel
theorem dL_law_230 : decode cL_law 230 = .ok (.iadd, 1) := by decide +kernel
theorem dL_law_231 : decode cL_law 231 = .ok (.iaload, 1) := by decide +kernel
theorem dL_law_232 : decode cL_law 232 = .ok (.aload_n 0, 1) := by decide +kernel
theorem dL_law_233 : decode cL_law 233 = .ok (.iload_n 3, 1) := by decide +kernel
theorem dL_law_234 : decode cL_law 234 = .ok (.iconst 3, 1) := by decide +kernel
theorem dL_law_235 : decode cL_law 235 = .ok (.iadd, 1) := by decide +kernel
theorem dL_law_236 : decode cL_law 236 = .ok (.iaload, 1) := by decide +kernel
theorem dL_law_237 : decode cL_law 237 = .ok (.invokevirtual 20, 3) := by decide +kernel
theorem dL_law_240 : decode cL_law 240 = .ok (.aload_n 2, 1) := by decide +kernel
theorem dL_law_241 : decode cL_law 241 = .ok (.aload_n 0, 1) := by decide +kernel
theorem dL_law_242 : decode cL_law 242 = .ok (.iload_n 3, 1) := by decide +kernel
theorem dL_law_243 : decode cL_law 243 = .ok (.iconst 1, 1) := by decide +kernel
theorem dL_law_244 : decode cL_law 244 = .ok (.iadd, 1) := by decide +kernel
theorem dL_law_245 : decode cL_law 245 = .ok (.iaload, 1) := by decide +kernel
theorem dL_law_246 : decode cL_law 246 = .ok (.aload_n 0, 1) := by decide +kernel
theorem dL_law_247 : decode cL_law 247 = .ok (.iload_n 3, 1) := by decide +kernel
theorem dL_law_248 : decode cL_law 248 = .ok (.iconst 2, 1) := by decide +kernel
theorem dL_law_249 : decode cL_law 249 = .ok (.iadd, 1) := by decide +kernel
theorem dL_law_250 : decode cL_law 250 = .ok (.iaload, 1) := by decide +kernel
theorem dL_law_251 : decode cL_law 251 = .ok (.aload_n 0, 1) := by decide +kernel
theorem dL_law_252 : decode cL_law 252 = .ok (.iload_n 3, 1) := by decide +kernel
theorem dL_law_253 : decode cL_law 253 = .ok (.iconst 3, 1) := by decide +kernel
theorem dL_law_254 : decode cL_law 254 = .ok (.iadd, 1) := by decide +kernel
theorem dL_law_255 : decode cL_law 255 = .ok (.iaload, 1) := by decide +kernel
theorem dL_law_256 : decode cL_law 256 = .ok (.invokevirtual 24, 3) := by decide +kernel
theorem dL_law_259 : decode cL_law 259 = .ok (.if_icmp .eq 763, 3) := by decide +kernel
theorem dL_law_262 : decode cL_law 262 = .ok (.iconst 0, 1) := by decide +kernel
theorem dL_law_263 : decode cL_law 263 = .ok (.ireturn, 1) := by decide +kernel
theorem dL_law_264 : decode cL_law 264 = .ok (.aload_n 1, 1) := by decide +kernel
theorem dL_law_265 : decode cL_law 265 = .ok (.invokevirtual 25, 3) := by decide +kernel
theorem dL_law_268 : decode cL_law 268 = .ok (.aload_n 2, 1) := by decide +kernel
theorem dL_law_269 : decode cL_law 269 = .ok (.invokevirtual 29, 3) := by decide +kernel
theorem dL_law_272 : decode cL_law 272 = .ok (.if_icmp .eq 750, 3) := by decide +kernel
theorem dL_law_275 : decode cL_law 275 = .ok (.iconst 0, 1) := by decide +kernel
theorem dL_law_276 : decode cL_law 276 = .ok (.ireturn, 1) := by decide +kernel
theorem dL_law_277 : decode cL_law 277 = .ok (.aload_n 1, 1) := by decide +kernel
theorem dL_law_278 : decode cL_law 278 = .ok (.aload_n 0, 1) := by decide +kernel
theorem dL_law_279 : decode cL_law 279 = .ok (.iload_n 3, 1) := by decide +kernel
theorem dL_law_280 : decode cL_law 280 = .ok (.iconst 1, 1) := by decide +kernel
theorem dL_law_281 : decode cL_law 281 = .ok (.iadd, 1) := by decide +kernel
theorem dL_law_282 : decode cL_law 282 = .ok (.iaload, 1) := by decide +kernel
theorem dL_law_283 : decode cL_law 283 = .ok (.aload_n 0, 1) := by decide +kernel
theorem dL_law_284 : decode cL_law 284 = .ok (.iload_n 3, 1) := by decide +kernel
theorem dL_law_285 : decode cL_law 285 = .ok (.iconst 2, 1) := by decide +kernel
theorem dL_law_286 : decode cL_law 286 = .ok (.iadd, 1) := by decide +kernel
theorem dL_law_287 : decode cL_law 287 = .ok (.iaload, 1) := by decide +kernel
theorem dL_law_288 : decode cL_law 288 = .ok (.invokevirtual 30, 3) := by decide +kernel
theorem dL_law_291 : decode cL_law 291 = .ok (.aload_n 2, 1) := by decide +kernel
theorem dL_law_292 : decode cL_law 292 = .ok (.aload_n 0, 1) := by decide +kernel
theorem dL_law_293 : decode cL_law 293 = .ok (.iload_n 3, 1) := by decide +kernel
theorem dL_law_294 : decode cL_law 294 = .ok (.iconst 1, 1) := by decide +kernel
theorem dL_law_295 : decode cL_law 295 = .ok (.iadd, 1) := by decide +kernel
theorem dL_law_296 : decode cL_law 296 = .ok (.iaload, 1) := by decide +kernel
theorem dL_law_297 : decode cL_law 297 = .ok (.aload_n 0, 1) := by decide +kernel
theorem dL_law_298 : decode cL_law 298 = .ok (.iload_n 3, 1) := by decide +kernel
theorem dL_law_299 : decode cL_law 299 = .ok (.iconst 2, 1) := by decide +kernel
theorem dL_law_300 : decode cL_law 300 = .ok (.iadd, 1) := by decide +kernel
theorem dL_law_301 : decode cL_law 301 = .ok (.iaload, 1) := by decide +kernel
theorem dL_law_302 : decode cL_law 302 = .ok (.invokevirtual 34, 3) := by decide +kernel
theorem dL_law_305 : decode cL_law 305 = .ok (.if_icmp .eq 717, 3) := by decide +kernel
theorem dL_law_308 : decode cL_law 308 = .ok (.iconst 0, 1) := by decide +kernel
theorem dL_law_309 : decode cL_law 309 = .ok (.ireturn, 1) := by decide +kernel
theorem dL_law_310 : decode cL_law 310 = .ok (.aload_n 1, 1) := by decide +kernel
theorem dL_law_311 : decode cL_law 311 = .ok (.aload_n 0, 1) := by decide +kernel
theorem dL_law_312 : decode cL_law 312 = .ok (.iload_n 3, 1) := by decide +kernel
theorem dL_law_313 : decode cL_law 313 = .ok (.iconst 1, 1) := by decide +kernel
theorem dL_law_314 : decode cL_law 314 = .ok (.iadd, 1) := by decide +kernel
theorem dL_law_315 : decode cL_law 315 = .ok (.iaload, 1) := by decide +kernel
theorem dL_law_316 : decode cL_law 316 = .ok (.invokevirtual 35, 3) := by decide +kernel
theorem dL_law_319 : decode cL_law 319 = .ok (.aload_n 2, 1) := by decide +kernel
theorem dL_law_320 : decode cL_law 320 = .ok (.aload_n 0, 1) := by decide +kernel
theorem dL_law_321 : decode cL_law 321 = .ok (.iload_n 3, 1) := by decide +kernel
theorem dL_law_322 : decode cL_law 322 = .ok (.iconst 1, 1) := by decide +kernel
theorem dL_law_323 : decode cL_law 323 = .ok (.iadd, 1) := by decide +kernel
theorem dL_law_324 : decode cL_law 324 = .ok (.iaload, 1) := by decide +kernel
theorem dL_law_325 : decode cL_law 325 = .ok (.invokevirtual 39, 3) := by decide +kernel
theorem dL_law_328 : decode cL_law 328 = .ok (.if_icmp .eq 694, 3) := by decide +kernel
theorem dL_law_331 : decode cL_law 331 = .ok (.iconst 0, 1) := by decide +kernel
theorem dL_law_332 : decode cL_law 332 = .ok (.ireturn, 1) := by decide +kernel
theorem dL_law_333 : decode cL_law 333 = .ok (.aload_n 1, 1) := by decide +kernel
theorem dL_law_334 : decode cL_law 334 = .ok (.aload_n 0, 1) := by decide +kernel
theorem dL_law_335 : decode cL_law 335 = .ok (.iload_n 3, 1) := by decide +kernel
theorem dL_law_336 : decode cL_law 336 = .ok (.iconst 1, 1) := by decide +kernel
theorem dL_law_337 : decode cL_law 337 = .ok (.iadd, 1) := by decide +kernel
theorem dL_law_338 : decode cL_law 338 = .ok (.iaload, 1) := by decide +kernel
theorem dL_law_339 : decode cL_law 339 = .ok (.aload_n 0, 1) := by decide +kernel
theorem dL_law_340 : decode cL_law 340 = .ok (.iload_n 3, 1) := by decide +kernel
theorem dL_law_341 : decode cL_law 341 = .ok (.iconst 2, 1) := by decide +kernel
theorem dL_law_342 : decode cL_law 342 = .ok (.iadd, 1) := by decide +kernel
theorem dL_law_343 : decode cL_law 343 = .ok (.iaload, 1) := by decide +kernel
theorem dL_law_344 : decode cL_law 344 = .ok (.aload_n 0, 1) := by decide +kernel
theorem dL_law_345 : decode cL_law 345 = .ok (.iload_n 3, 1) := by decide +kernel
theorem dL_law_346 : decode cL_law 346 = .ok (.iconst 3, 1) := by decide +kernel
theorem dL_law_347 : decode cL_law 347 = .ok (.iadd, 1) := by decide +kernel
theorem dL_law_348 : decode cL_law 348 = .ok (.iaload, 1) := by decide +kernel
theorem dL_law_349 : decode cL_law 349 = .ok (.invokevirtual 40, 3) := by decide +kernel
theorem dL_law_352 : decode cL_law 352 = .ok (.aload_n 2, 1) := by decide +kernel
theorem dL_law_353 : decode cL_law 353 = .ok (.aload_n 0, 1) := by decide +kernel
theorem dL_law_354 : decode cL_law 354 = .ok (.iload_n 3, 1) := by decide +kernel
theorem dL_law_355 : decode cL_law 355 = .ok (.iconst 1, 1) := by decide +kernel
theorem dL_law_356 : decode cL_law 356 = .ok (.iadd, 1) := by decide +kernel
theorem dL_law_357 : decode cL_law 357 = .ok (.iaload, 1) := by decide +kernel
theorem dL_law_358 : decode cL_law 358 = .ok (.aload_n 0, 1) := by decide +kernel
theorem dL_law_359 : decode cL_law 359 = .ok (.iload_n 3, 1) := by decide +kernel
theorem dL_law_360 : decode cL_law 360 = .ok (.iconst 2, 1) := by decide +kernel
theorem dL_law_361 : decode cL_law 361 = .ok (.iadd, 1) := by decide +kernel
theorem dL_law_362 : decode cL_law 362 = .ok (.iaload, 1) := by decide +kernel
theorem dL_law_363 : decode cL_law 363 = .ok (.aload_n 0, 1) := by decide +kernel
theorem dL_law_364 : decode cL_law 364 = .ok (.iload_n 3, 1) := by decide +kernel
theorem dL_law_365 : decode cL_law 365 = .ok (.iconst 3, 1) := by decide +kernel
theorem dL_law_366 : decode cL_law 366 = .ok (.iadd, 1) := by decide +kernel
theorem dL_law_367 : decode cL_law 367 = .ok (.iaload, 1) := by decide +kernel
theorem dL_law_368 : decode cL_law 368 = .ok (.invokevirtual 43, 3) := by decide +kernel
theorem dL_law_371 : decode cL_law 371 = .ok (.if_icmp .eq 651, 3) := by decide +kernel
theorem dL_law_374 : decode cL_law 374 = .ok (.iconst 0, 1) := by decide +kernel
theorem dL_law_375 : decode cL_law 375 = .ok (.ireturn, 1) := by decide +kernel
theorem dL_law_376 : decode cL_law 376 = .ok (.aload_n 1, 1) := by decide +kernel
theorem dL_law_377 : decode cL_law 377 = .ok (.aload_n 0, 1) := by decide +kernel
theorem dL_law_378 : decode cL_law 378 = .ok (.iload_n 3, 1) := by decide +kernel
theorem dL_law_379 : decode cL_law 379 = .ok (.iconst 1, 1) := by decide +kernel
theorem dL_law_380 : decode cL_law 380 = .ok (.iadd, 1) := by decide +kernel
theorem dL_law_381 : decode cL_law 381 = .ok (.iaload, 1) := by decide +kernel
theorem dL_law_382 : decode cL_law 382 = .ok (.aload_n 0, 1) := by decide +kernel
theorem dL_law_383 : decode cL_law 383 = .ok (.iload_n 3, 1) := by decide +kernel
theorem dL_law_384 : decode cL_law 384 = .ok (.iconst 2, 1) := by decide +kernel
theorem dL_law_385 : decode cL_law 385 = .ok (.iadd, 1) := by decide +kernel
theorem dL_law_386 : decode cL_law 386 = .ok (.iaload, 1) := by decide +kernel
theorem dL_law_387 : decode cL_law 387 = .ok (.invokevirtual 44, 3) := by decide +kernel
theorem dL_law_390 : decode cL_law 390 = .ok (.aload_n 2, 1) := by decide +kernel
theorem dL_law_391 : decode cL_law 391 = .ok (.aload_n 0, 1) := by decide +kernel
theorem dL_law_392 : decode cL_law 392 = .ok (.iload_n 3, 1) := by decide +kernel
theorem dL_law_393 : decode cL_law 393 = .ok (.iconst 1, 1) := by decide +kernel
theorem dL_law_394 : decode cL_law 394 = .ok (.iadd, 1) := by decide +kernel
theorem dL_law_395 : decode cL_law 395 = .ok (.iaload, 1) := by decide +kernel
theorem dL_law_396 : decode cL_law 396 = .ok (.aload_n 0, 1) := by decide +kernel
theorem dL_law_397 : decode cL_law 397 = .ok (.iload_n 3, 1) := by decide +kernel
theorem dL_law_398 : decode cL_law 398 = .ok (.iconst 2, 1) := by decide +kernel
theorem dL_law_399 : decode cL_law 399 = .ok (.iadd, 1) := by decide +kernel
theorem dL_law_400 : decode cL_law 400 = .ok (.iaload, 1) := by decide +kernel
theorem dL_law_401 : decode cL_law 401 = .ok (.invokevirtual 47, 3) := by decide +kernel
theorem dL_law_404 : decode cL_law 404 = .ok (.if_icmp .eq 618, 3) := by decide +kernel
theorem dL_law_407 : decode cL_law 407 = .ok (.iconst 0, 1) := by decide +kernel
theorem dL_law_408 : decode cL_law 408 = .ok (.ireturn, 1) := by decide +kernel
theorem dL_law_409 : decode cL_law 409 = .ok (.aload_n 1, 1) := by decide +kernel
theorem dL_law_410 : decode cL_law 410 = .ok (.aload_n 0, 1) := by decide +kernel
theorem dL_law_411 : decode cL_law 411 = .ok (.iload_n 3, 1) := by decide +kernel
theorem dL_law_412 : decode cL_law 412 = .ok (.iconst 1, 1) := by decide +kernel
theorem dL_law_413 : decode cL_law 413 = .ok (.iadd, 1) := by decide +kernel
theorem dL_law_414 : decode cL_law 414 = .ok (.iaload, 1) := by decide +kernel
theorem dL_law_415 : decode cL_law 415 = .ok (.aload_n 0, 1) := by decide +kernel
theorem dL_law_416 : decode cL_law 416 = .ok (.iload_n 3, 1) := by decide +kernel
theorem dL_law_417 : decode cL_law 417 = .ok (.iconst 2, 1) := by decide +kernel
theorem dL_law_418 : decode cL_law 418 = .ok (.iadd, 1) := by decide +kernel
theorem dL_law_419 : decode cL_law 419 = .ok (.iaload, 1) := by decide +kernel
theorem dL_law_420 : decode cL_law 420 = .ok (.invokevirtual 48, 3) := by decide +kernel
theorem dL_law_423 : decode cL_law 423 = .ok (.aload_n 2, 1) := by decide +kernel
theorem dL_law_424 : decode cL_law 424 = .ok (.aload_n 0, 1) := by decide +kernel
theorem dL_law_425 : decode cL_law 425 = .ok (.iload_n 3, 1) := by decide +kernel
theorem dL_law_426 : decode cL_law 426 = .ok (.iconst 1, 1) := by decide +kernel
theorem dL_law_427 : decode cL_law 427 = .ok (.iadd, 1) := by decide +kernel
theorem dL_law_428 : decode cL_law 428 = .ok (.iaload, 1) := by decide +kernel
theorem dL_law_429 : decode cL_law 429 = .ok (.aload_n 0, 1) := by decide +kernel
theorem dL_law_430 : decode cL_law 430 = .ok (.iload_n 3, 1) := by decide +kernel
theorem dL_law_431 : decode cL_law 431 = .ok (.iconst 2, 1) := by decide +kernel
theorem dL_law_432 : decode cL_law 432 = .ok (.iadd, 1) := by decide +kernel
theorem dL_law_433 : decode cL_law 433 = .ok (.iaload, 1) := by decide +kernel
theorem dL_law_434 : decode cL_law 434 = .ok (.invokevirtual 51, 3) := by decide +kernel
theorem dL_law_437 : decode cL_law 437 = .ok (.if_icmp .eq 585, 3) := by decide +kernel
theorem dL_law_440 : decode cL_law 440 = .ok (.iconst 0, 1) := by decide +kernel
theorem dL_law_441 : decode cL_law 441 = .ok (.ireturn, 1) := by decide +kernel
theorem dL_law_442 : decode cL_law 442 = .ok (.aload_n 1, 1) := by decide +kernel
theorem dL_law_443 : decode cL_law 443 = .ok (.invokevirtual 52, 3) := by decide +kernel
theorem dL_law_446 : decode cL_law 446 = .ok (.aload_n 2, 1) := by decide +kernel
theorem dL_law_447 : decode cL_law 447 = .ok (.invokevirtual 55, 3) := by decide +kernel
theorem dL_law_450 : decode cL_law 450 = .ok (.if_icmp .eq 572, 3) := by decide +kernel
theorem dL_law_453 : decode cL_law 453 = .ok (.iconst 0, 1) := by decide +kernel
theorem dL_law_454 : decode cL_law 454 = .ok (.ireturn, 1) := by decide +kernel
theorem dL_law_455 : decode cL_law 455 = .ok (.aload_n 1, 1) := by decide +kernel
theorem dL_law_456 : decode cL_law 456 = .ok (.aload_n 0, 1) := by decide +kernel
theorem dL_law_457 : decode cL_law 457 = .ok (.iload_n 3, 1) := by decide +kernel
theorem dL_law_458 : decode cL_law 458 = .ok (.iconst 1, 1) := by decide +kernel
theorem dL_law_459 : decode cL_law 459 = .ok (.iadd, 1) := by decide +kernel
theorem dL_law_460 : decode cL_law 460 = .ok (.iaload, 1) := by decide +kernel
theorem dL_law_461 : decode cL_law 461 = .ok (.aload_n 0, 1) := by decide +kernel
theorem dL_law_462 : decode cL_law 462 = .ok (.iload_n 3, 1) := by decide +kernel
theorem dL_law_463 : decode cL_law 463 = .ok (.iconst 2, 1) := by decide +kernel
theorem dL_law_464 : decode cL_law 464 = .ok (.iadd, 1) := by decide +kernel
theorem dL_law_465 : decode cL_law 465 = .ok (.iaload, 1) := by decide +kernel
theorem dL_law_466 : decode cL_law 466 = .ok (.invokevirtual 56, 3) := by decide +kernel
theorem dL_law_469 : decode cL_law 469 = .ok (.aload_n 2, 1) := by decide +kernel
theorem dL_law_470 : decode cL_law 470 = .ok (.aload_n 0, 1) := by decide +kernel
theorem dL_law_471 : decode cL_law 471 = .ok (.iload_n 3, 1) := by decide +kernel
theorem dL_law_472 : decode cL_law 472 = .ok (.iconst 1, 1) := by decide +kernel
theorem dL_law_473 : decode cL_law 473 = .ok (.iadd, 1) := by decide +kernel
theorem dL_law_474 : decode cL_law 474 = .ok (.iaload, 1) := by decide +kernel
theorem dL_law_475 : decode cL_law 475 = .ok (.aload_n 0, 1) := by decide +kernel
theorem dL_law_476 : decode cL_law 476 = .ok (.iload_n 3, 1) := by decide +kernel
theorem dL_law_477 : decode cL_law 477 = .ok (.iconst 2, 1) := by decide +kernel
theorem dL_law_478 : decode cL_law 478 = .ok (.iadd, 1) := by decide +kernel
theorem dL_law_479 : decode cL_law 479 = .ok (.iaload, 1) := by decide +kernel
theorem dL_law_480 : decode cL_law 480 = .ok (.invokevirtual 60, 3) := by decide +kernel
theorem dL_law_483 : decode cL_law 483 = .ok (.lcmp, 1) := by decide +kernel
theorem dL_law_484 : decode cL_law 484 = .ok (.ifCond .eq 538, 3) := by decide +kernel
theorem dL_law_487 : decode cL_law 487 = .ok (.iconst 0, 1) := by decide +kernel
theorem dL_law_488 : decode cL_law 488 = .ok (.ireturn, 1) := by decide +kernel
theorem dL_law_489 : decode cL_law 489 = .ok (.aload_n 1, 1) := by decide +kernel
theorem dL_law_490 : decode cL_law 490 = .ok (.aload_n 0, 1) := by decide +kernel
theorem dL_law_491 : decode cL_law 491 = .ok (.iload_n 3, 1) := by decide +kernel
theorem dL_law_492 : decode cL_law 492 = .ok (.iconst 1, 1) := by decide +kernel
theorem dL_law_493 : decode cL_law 493 = .ok (.iadd, 1) := by decide +kernel
theorem dL_law_494 : decode cL_law 494 = .ok (.iaload, 1) := by decide +kernel
theorem dL_law_495 : decode cL_law 495 = .ok (.aload_n 0, 1) := by decide +kernel
theorem dL_law_496 : decode cL_law 496 = .ok (.iload_n 3, 1) := by decide +kernel
theorem dL_law_497 : decode cL_law 497 = .ok (.iconst 2, 1) := by decide +kernel
theorem dL_law_498 : decode cL_law 498 = .ok (.iadd, 1) := by decide +kernel
theorem dL_law_499 : decode cL_law 499 = .ok (.iaload, 1) := by decide +kernel
theorem dL_law_500 : decode cL_law 500 = .ok (.invokevirtual 61, 3) := by decide +kernel
theorem dL_law_503 : decode cL_law 503 = .ok (.aload_n 2, 1) := by decide +kernel
theorem dL_law_504 : decode cL_law 504 = .ok (.aload_n 0, 1) := by decide +kernel
theorem dL_law_505 : decode cL_law 505 = .ok (.iload_n 3, 1) := by decide +kernel
theorem dL_law_506 : decode cL_law 506 = .ok (.iconst 1, 1) := by decide +kernel
theorem dL_law_507 : decode cL_law 507 = .ok (.iadd, 1) := by decide +kernel
theorem dL_law_508 : decode cL_law 508 = .ok (.iaload, 1) := by decide +kernel
theorem dL_law_509 : decode cL_law 509 = .ok (.aload_n 0, 1) := by decide +kernel
theorem dL_law_510 : decode cL_law 510 = .ok (.iload_n 3, 1) := by decide +kernel
theorem dL_law_511 : decode cL_law 511 = .ok (.iconst 2, 1) := by decide +kernel
theorem dL_law_512 : decode cL_law 512 = .ok (.iadd, 1) := by decide +kernel
theorem dL_law_513 : decode cL_law 513 = .ok (.iaload, 1) := by decide +kernel
theorem dL_law_514 : decode cL_law 514 = .ok (.invokevirtual 64, 3) := by decide +kernel
theorem dL_law_517 : decode cL_law 517 = .ok (.if_icmp .eq 505, 3) := by decide +kernel
theorem dL_law_520 : decode cL_law 520 = .ok (.iconst 0, 1) := by decide +kernel
theorem dL_law_521 : decode cL_law 521 = .ok (.ireturn, 1) := by decide +kernel
theorem dL_law_522 : decode cL_law 522 = .ok (.aload_n 1, 1) := by decide +kernel
theorem dL_law_523 : decode cL_law 523 = .ok (.aload_n 0, 1) := by decide +kernel
theorem dL_law_524 : decode cL_law 524 = .ok (.iload_n 3, 1) := by decide +kernel
theorem dL_law_525 : decode cL_law 525 = .ok (.iconst 1, 1) := by decide +kernel
theorem dL_law_526 : decode cL_law 526 = .ok (.iadd, 1) := by decide +kernel
theorem dL_law_527 : decode cL_law 527 = .ok (.iaload, 1) := by decide +kernel
theorem dL_law_528 : decode cL_law 528 = .ok (.aload_n 0, 1) := by decide +kernel
theorem dL_law_529 : decode cL_law 529 = .ok (.iload_n 3, 1) := by decide +kernel
theorem dL_law_530 : decode cL_law 530 = .ok (.iconst 2, 1) := by decide +kernel
theorem dL_law_531 : decode cL_law 531 = .ok (.iadd, 1) := by decide +kernel
theorem dL_law_532 : decode cL_law 532 = .ok (.iaload, 1) := by decide +kernel
theorem dL_law_533 : decode cL_law 533 = .ok (.invokevirtual 65, 3) := by decide +kernel
theorem dL_law_536 : decode cL_law 536 = .ok (.aload_n 2, 1) := by decide +kernel
theorem dL_law_537 : decode cL_law 537 = .ok (.aload_n 0, 1) := by decide +kernel
theorem dL_law_538 : decode cL_law 538 = .ok (.iload_n 3, 1) := by decide +kernel
theorem dL_law_539 : decode cL_law 539 = .ok (.iconst 1, 1) := by decide +kernel
theorem dL_law_540 : decode cL_law 540 = .ok (.iadd, 1) := by decide +kernel
theorem dL_law_541 : decode cL_law 541 = .ok (.iaload, 1) := by decide +kernel
theorem dL_law_542 : decode cL_law 542 = .ok (.aload_n 0, 1) := by decide +kernel
theorem dL_law_543 : decode cL_law 543 = .ok (.iload_n 3, 1) := by decide +kernel
theorem dL_law_544 : decode cL_law 544 = .ok (.iconst 2, 1) := by decide +kernel
theorem dL_law_545 : decode cL_law 545 = .ok (.iadd, 1) := by decide +kernel
theorem dL_law_546 : decode cL_law 546 = .ok (.iaload, 1) := by decide +kernel
theorem dL_law_547 : decode cL_law 547 = .ok (.invokevirtual 68, 3) := by decide +kernel
theorem dL_law_550 : decode cL_law 550 = .ok (.if_icmp .eq 472, 3) := by decide +kernel
theorem dL_law_553 : decode cL_law 553 = .ok (.iconst 0, 1) := by decide +kernel
theorem dL_law_554 : decode cL_law 554 = .ok (.ireturn, 1) := by decide +kernel
theorem dL_law_555 : decode cL_law 555 = .ok (.aload_n 1, 1) := by decide +kernel
theorem dL_law_556 : decode cL_law 556 = .ok (.aload_n 0, 1) := by decide +kernel
theorem dL_law_557 : decode cL_law 557 = .ok (.iload_n 3, 1) := by decide +kernel
theorem dL_law_558 : decode cL_law 558 = .ok (.iconst 1, 1) := by decide +kernel
theorem dL_law_559 : decode cL_law 559 = .ok (.iadd, 1) := by decide +kernel
theorem dL_law_560 : decode cL_law 560 = .ok (.iaload, 1) := by decide +kernel
theorem dL_law_561 : decode cL_law 561 = .ok (.aload_n 0, 1) := by decide +kernel
theorem dL_law_562 : decode cL_law 562 = .ok (.iload_n 3, 1) := by decide +kernel
theorem dL_law_563 : decode cL_law 563 = .ok (.iconst 2, 1) := by decide +kernel
theorem dL_law_564 : decode cL_law 564 = .ok (.iadd, 1) := by decide +kernel
theorem dL_law_565 : decode cL_law 565 = .ok (.iaload, 1) := by decide +kernel
theorem dL_law_566 : decode cL_law 566 = .ok (.invokevirtual 69, 3) := by decide +kernel
theorem dL_law_569 : decode cL_law 569 = .ok (.aload_n 2, 1) := by decide +kernel
theorem dL_law_570 : decode cL_law 570 = .ok (.aload_n 0, 1) := by decide +kernel
theorem dL_law_571 : decode cL_law 571 = .ok (.iload_n 3, 1) := by decide +kernel
theorem dL_law_572 : decode cL_law 572 = .ok (.iconst 1, 1) := by decide +kernel
theorem dL_law_573 : decode cL_law 573 = .ok (.iadd, 1) := by decide +kernel
theorem dL_law_574 : decode cL_law 574 = .ok (.iaload, 1) := by decide +kernel
theorem dL_law_575 : decode cL_law 575 = .ok (.aload_n 0, 1) := by decide +kernel
theorem dL_law_576 : decode cL_law 576 = .ok (.iload_n 3, 1) := by decide +kernel
theorem dL_law_577 : decode cL_law 577 = .ok (.iconst 2, 1) := by decide +kernel
theorem dL_law_578 : decode cL_law 578 = .ok (.iadd, 1) := by decide +kernel
theorem dL_law_579 : decode cL_law 579 = .ok (.iaload, 1) := by decide +kernel
theorem dL_law_580 : decode cL_law 580 = .ok (.invokevirtual 72, 3) := by decide +kernel
theorem dL_law_583 : decode cL_law 583 = .ok (.if_icmp .eq 439, 3) := by decide +kernel
theorem dL_law_586 : decode cL_law 586 = .ok (.iconst 0, 1) := by decide +kernel
theorem dL_law_587 : decode cL_law 587 = .ok (.ireturn, 1) := by decide +kernel
theorem dL_law_588 : decode cL_law 588 = .ok (.aload_n 1, 1) := by decide +kernel
theorem dL_law_589 : decode cL_law 589 = .ok (.aload_n 0, 1) := by decide +kernel
theorem dL_law_590 : decode cL_law 590 = .ok (.iload_n 3, 1) := by decide +kernel
theorem dL_law_591 : decode cL_law 591 = .ok (.iconst 1, 1) := by decide +kernel
theorem dL_law_592 : decode cL_law 592 = .ok (.iadd, 1) := by decide +kernel
theorem dL_law_593 : decode cL_law 593 = .ok (.iaload, 1) := by decide +kernel
theorem dL_law_594 : decode cL_law 594 = .ok (.aload_n 0, 1) := by decide +kernel
theorem dL_law_595 : decode cL_law 595 = .ok (.iload_n 3, 1) := by decide +kernel
theorem dL_law_596 : decode cL_law 596 = .ok (.iconst 2, 1) := by decide +kernel
theorem dL_law_597 : decode cL_law 597 = .ok (.iadd, 1) := by decide +kernel
theorem dL_law_598 : decode cL_law 598 = .ok (.iaload, 1) := by decide +kernel
theorem dL_law_599 : decode cL_law 599 = .ok (.invokevirtual 73, 3) := by decide +kernel
theorem dL_law_602 : decode cL_law 602 = .ok (.aload_n 2, 1) := by decide +kernel
theorem dL_law_603 : decode cL_law 603 = .ok (.aload_n 0, 1) := by decide +kernel
theorem dL_law_604 : decode cL_law 604 = .ok (.iload_n 3, 1) := by decide +kernel
theorem dL_law_605 : decode cL_law 605 = .ok (.iconst 1, 1) := by decide +kernel
theorem dL_law_606 : decode cL_law 606 = .ok (.iadd, 1) := by decide +kernel
theorem dL_law_607 : decode cL_law 607 = .ok (.iaload, 1) := by decide +kernel
theorem dL_law_608 : decode cL_law 608 = .ok (.aload_n 0, 1) := by decide +kernel
theorem dL_law_609 : decode cL_law 609 = .ok (.iload_n 3, 1) := by decide +kernel
theorem dL_law_610 : decode cL_law 610 = .ok (.iconst 2, 1) := by decide +kernel
theorem dL_law_611 : decode cL_law 611 = .ok (.iadd, 1) := by decide +kernel
theorem dL_law_612 : decode cL_law 612 = .ok (.iaload, 1) := by decide +kernel
theorem dL_law_613 : decode cL_law 613 = .ok (.invokevirtual 76, 3) := by decide +kernel
theorem dL_law_616 : decode cL_law 616 = .ok (.if_icmp .eq 406, 3) := by decide +kernel
theorem dL_law_619 : decode cL_law 619 = .ok (.iconst 0, 1) := by decide +kernel
theorem dL_law_620 : decode cL_law 620 = .ok (.ireturn, 1) := by decide +kernel
theorem dL_law_621 : decode cL_law 621 = .ok (.aload_n 1, 1) := by decide +kernel
theorem dL_law_622 : decode cL_law 622 = .ok (.aload_n 0, 1) := by decide +kernel
theorem dL_law_623 : decode cL_law 623 = .ok (.iload_n 3, 1) := by decide +kernel
theorem dL_law_624 : decode cL_law 624 = .ok (.iconst 1, 1) := by decide +kernel
theorem dL_law_625 : decode cL_law 625 = .ok (.iadd, 1) := by decide +kernel
theorem dL_law_626 : decode cL_law 626 = .ok (.iaload, 1) := by decide +kernel
theorem dL_law_627 : decode cL_law 627 = .ok (.aload_n 0, 1) := by decide +kernel
theorem dL_law_628 : decode cL_law 628 = .ok (.iload_n 3, 1) := by decide +kernel
theorem dL_law_629 : decode cL_law 629 = .ok (.iconst 2, 1) := by decide +kernel
theorem dL_law_630 : decode cL_law 630 = .ok (.iadd, 1) := by decide +kernel
theorem dL_law_631 : decode cL_law 631 = .ok (.iaload, 1) := by decide +kernel
theorem dL_law_632 : decode cL_law 632 = .ok (.i2l, 1) := by decide +kernel
theorem dL_law_633 : decode cL_law 633 = .ok (.bipush 32, 2) := by decide +kernel
theorem dL_law_635 : decode cL_law 635 = .ok (.lshl, 1) := by decide +kernel
theorem dL_law_636 : decode cL_law 636 = .ok (.aload_n 0, 1) := by decide +kernel
theorem dL_law_637 : decode cL_law 637 = .ok (.iload_n 3, 1) := by decide +kernel
theorem dL_law_638 : decode cL_law 638 = .ok (.iconst 3, 1) := by decide +kernel
theorem dL_law_639 : decode cL_law 639 = .ok (.iadd, 1) := by decide +kernel
theorem dL_law_640 : decode cL_law 640 = .ok (.iaload, 1) := by decide +kernel
theorem dL_law_641 : decode cL_law 641 = .ok (.i2l, 1) := by decide +kernel
theorem dL_law_642 : decode cL_law 642 = .ok (.ldc2_w 13, 3) := by decide +kernel
theorem dL_law_645 : decode cL_law 645 = .ok (.land, 1) := by decide +kernel
theorem dL_law_646 : decode cL_law 646 = .ok (.lor, 1) := by decide +kernel
theorem dL_law_647 : decode cL_law 647 = .ok (.invokevirtual 77, 3) := by decide +kernel
theorem dL_law_650 : decode cL_law 650 = .ok (.aload_n 2, 1) := by decide +kernel
theorem dL_law_651 : decode cL_law 651 = .ok (.aload_n 0, 1) := by decide +kernel
theorem dL_law_652 : decode cL_law 652 = .ok (.iload_n 3, 1) := by decide +kernel
theorem dL_law_653 : decode cL_law 653 = .ok (.iconst 1, 1) := by decide +kernel
theorem dL_law_654 : decode cL_law 654 = .ok (.iadd, 1) := by decide +kernel
theorem dL_law_655 : decode cL_law 655 = .ok (.iaload, 1) := by decide +kernel
theorem dL_law_656 : decode cL_law 656 = .ok (.aload_n 0, 1) := by decide +kernel
theorem dL_law_657 : decode cL_law 657 = .ok (.iload_n 3, 1) := by decide +kernel
theorem dL_law_658 : decode cL_law 658 = .ok (.iconst 2, 1) := by decide +kernel
theorem dL_law_659 : decode cL_law 659 = .ok (.iadd, 1) := by decide +kernel
theorem dL_law_660 : decode cL_law 660 = .ok (.iaload, 1) := by decide +kernel
theorem dL_law_661 : decode cL_law 661 = .ok (.i2l, 1) := by decide +kernel
theorem dL_law_662 : decode cL_law 662 = .ok (.bipush 32, 2) := by decide +kernel
theorem dL_law_664 : decode cL_law 664 = .ok (.lshl, 1) := by decide +kernel
theorem dL_law_665 : decode cL_law 665 = .ok (.aload_n 0, 1) := by decide +kernel
theorem dL_law_666 : decode cL_law 666 = .ok (.iload_n 3, 1) := by decide +kernel
theorem dL_law_667 : decode cL_law 667 = .ok (.iconst 3, 1) := by decide +kernel
theorem dL_law_668 : decode cL_law 668 = .ok (.iadd, 1) := by decide +kernel
theorem dL_law_669 : decode cL_law 669 = .ok (.iaload, 1) := by decide +kernel
theorem dL_law_670 : decode cL_law 670 = .ok (.i2l, 1) := by decide +kernel
theorem dL_law_671 : decode cL_law 671 = .ok (.ldc2_w 13, 3) := by decide +kernel
theorem dL_law_674 : decode cL_law 674 = .ok (.land, 1) := by decide +kernel
theorem dL_law_675 : decode cL_law 675 = .ok (.lor, 1) := by decide +kernel
theorem dL_law_676 : decode cL_law 676 = .ok (.invokevirtual 81, 3) := by decide +kernel
theorem dL_law_679 : decode cL_law 679 = .ok (.if_icmp .eq 343, 3) := by decide +kernel
theorem dL_law_682 : decode cL_law 682 = .ok (.iconst 0, 1) := by decide +kernel
theorem dL_law_683 : decode cL_law 683 = .ok (.ireturn, 1) := by decide +kernel
theorem dL_law_684 : decode cL_law 684 = .ok (.aload_n 1, 1) := by decide +kernel
theorem dL_law_685 : decode cL_law 685 = .ok (.aload_n 0, 1) := by decide +kernel
theorem dL_law_686 : decode cL_law 686 = .ok (.iload_n 3, 1) := by decide +kernel
theorem dL_law_687 : decode cL_law 687 = .ok (.iconst 1, 1) := by decide +kernel
theorem dL_law_688 : decode cL_law 688 = .ok (.iadd, 1) := by decide +kernel
theorem dL_law_689 : decode cL_law 689 = .ok (.iaload, 1) := by decide +kernel
theorem dL_law_690 : decode cL_law 690 = .ok (.aload_n 0, 1) := by decide +kernel
theorem dL_law_691 : decode cL_law 691 = .ok (.iload_n 3, 1) := by decide +kernel
theorem dL_law_692 : decode cL_law 692 = .ok (.iconst 2, 1) := by decide +kernel
theorem dL_law_693 : decode cL_law 693 = .ok (.iadd, 1) := by decide +kernel
theorem dL_law_694 : decode cL_law 694 = .ok (.iaload, 1) := by decide +kernel
theorem dL_law_695 : decode cL_law 695 = .ok (.invokevirtual 82, 3) := by decide +kernel
theorem dL_law_698 : decode cL_law 698 = .ok (.aload_n 2, 1) := by decide +kernel
theorem dL_law_699 : decode cL_law 699 = .ok (.aload_n 0, 1) := by decide +kernel
theorem dL_law_700 : decode cL_law 700 = .ok (.iload_n 3, 1) := by decide +kernel
theorem dL_law_701 : decode cL_law 701 = .ok (.iconst 1, 1) := by decide +kernel
theorem dL_law_702 : decode cL_law 702 = .ok (.iadd, 1) := by decide +kernel
theorem dL_law_703 : decode cL_law 703 = .ok (.iaload, 1) := by decide +kernel
theorem dL_law_704 : decode cL_law 704 = .ok (.aload_n 0, 1) := by decide +kernel
theorem dL_law_705 : decode cL_law 705 = .ok (.iload_n 3, 1) := by decide +kernel
theorem dL_law_706 : decode cL_law 706 = .ok (.iconst 2, 1) := by decide +kernel
theorem dL_law_707 : decode cL_law 707 = .ok (.iadd, 1) := by decide +kernel
theorem dL_law_708 : decode cL_law 708 = .ok (.iaload, 1) := by decide +kernel
theorem dL_law_709 : decode cL_law 709 = .ok (.invokevirtual 85, 3) := by decide +kernel
theorem dL_law_712 : decode cL_law 712 = .ok (.lcmp, 1) := by decide +kernel
theorem dL_law_713 : decode cL_law 713 = .ok (.ifCond .eq 309, 3) := by decide +kernel
theorem dL_law_716 : decode cL_law 716 = .ok (.iconst 0, 1) := by decide +kernel
theorem dL_law_717 : decode cL_law 717 = .ok (.ireturn, 1) := by decide +kernel
theorem dL_law_718 : decode cL_law 718 = .ok (.aload_n 1, 1) := by decide +kernel
theorem dL_law_719 : decode cL_law 719 = .ok (.aload_n 0, 1) := by decide +kernel
theorem dL_law_720 : decode cL_law 720 = .ok (.iload_n 3, 1) := by decide +kernel
theorem dL_law_721 : decode cL_law 721 = .ok (.iconst 1, 1) := by decide +kernel
theorem dL_law_722 : decode cL_law 722 = .ok (.iadd, 1) := by decide +kernel
theorem dL_law_723 : decode cL_law 723 = .ok (.iaload, 1) := by decide +kernel
theorem dL_law_724 : decode cL_law 724 = .ok (.aload_n 0, 1) := by decide +kernel
theorem dL_law_725 : decode cL_law 725 = .ok (.iload_n 3, 1) := by decide +kernel
theorem dL_law_726 : decode cL_law 726 = .ok (.iconst 2, 1) := by decide +kernel
theorem dL_law_727 : decode cL_law 727 = .ok (.iadd, 1) := by decide +kernel
theorem dL_law_728 : decode cL_law 728 = .ok (.iaload, 1) := by decide +kernel
theorem dL_law_729 : decode cL_law 729 = .ok (.invokevirtual 86, 3) := by decide +kernel
theorem dL_law_732 : decode cL_law 732 = .ok (.aload_n 2, 1) := by decide +kernel
theorem dL_law_733 : decode cL_law 733 = .ok (.aload_n 0, 1) := by decide +kernel
theorem dL_law_734 : decode cL_law 734 = .ok (.iload_n 3, 1) := by decide +kernel
theorem dL_law_735 : decode cL_law 735 = .ok (.iconst 1, 1) := by decide +kernel
theorem dL_law_736 : decode cL_law 736 = .ok (.iadd, 1) := by decide +kernel
theorem dL_law_737 : decode cL_law 737 = .ok (.iaload, 1) := by decide +kernel
theorem dL_law_738 : decode cL_law 738 = .ok (.aload_n 0, 1) := by decide +kernel
theorem dL_law_739 : decode cL_law 739 = .ok (.iload_n 3, 1) := by decide +kernel
theorem dL_law_740 : decode cL_law 740 = .ok (.iconst 2, 1) := by decide +kernel
theorem dL_law_741 : decode cL_law 741 = .ok (.iadd, 1) := by decide +kernel
theorem dL_law_742 : decode cL_law 742 = .ok (.iaload, 1) := by decide +kernel
theorem dL_law_743 : decode cL_law 743 = .ok (.invokevirtual 89, 3) := by decide +kernel
theorem dL_law_746 : decode cL_law 746 = .ok (.if_icmp .eq 276, 3) := by decide +kernel
theorem dL_law_749 : decode cL_law 749 = .ok (.iconst 0, 1) := by decide +kernel
theorem dL_law_750 : decode cL_law 750 = .ok (.ireturn, 1) := by decide +kernel
theorem dL_law_751 : decode cL_law 751 = .ok (.aload_n 1, 1) := by decide +kernel
theorem dL_law_752 : decode cL_law 752 = .ok (.aload_n 0, 1) := by decide +kernel
theorem dL_law_753 : decode cL_law 753 = .ok (.iload_n 3, 1) := by decide +kernel
theorem dL_law_754 : decode cL_law 754 = .ok (.iconst 1, 1) := by decide +kernel
theorem dL_law_755 : decode cL_law 755 = .ok (.iadd, 1) := by decide +kernel
theorem dL_law_756 : decode cL_law 756 = .ok (.iaload, 1) := by decide +kernel
theorem dL_law_757 : decode cL_law 757 = .ok (.invokevirtual 90, 3) := by decide +kernel
theorem dL_law_760 : decode cL_law 760 = .ok (.aload_n 2, 1) := by decide +kernel
theorem dL_law_761 : decode cL_law 761 = .ok (.aload_n 0, 1) := by decide +kernel
theorem dL_law_762 : decode cL_law 762 = .ok (.iload_n 3, 1) := by decide +kernel
theorem dL_law_763 : decode cL_law 763 = .ok (.iconst 1, 1) := by decide +kernel
theorem dL_law_764 : decode cL_law 764 = .ok (.iadd, 1) := by decide +kernel
theorem dL_law_765 : decode cL_law 765 = .ok (.iaload, 1) := by decide +kernel
theorem dL_law_766 : decode cL_law 766 = .ok (.invokevirtual 93, 3) := by decide +kernel
theorem dL_law_769 : decode cL_law 769 = .ok (.if_icmp .eq 253, 3) := by decide +kernel
theorem dL_law_772 : decode cL_law 772 = .ok (.iconst 0, 1) := by decide +kernel
theorem dL_law_773 : decode cL_law 773 = .ok (.ireturn, 1) := by decide +kernel
theorem dL_law_774 : decode cL_law 774 = .ok (.aload_n 1, 1) := by decide +kernel
theorem dL_law_775 : decode cL_law 775 = .ok (.aload_n 0, 1) := by decide +kernel
theorem dL_law_776 : decode cL_law 776 = .ok (.iload_n 3, 1) := by decide +kernel
theorem dL_law_777 : decode cL_law 777 = .ok (.iconst 1, 1) := by decide +kernel
theorem dL_law_778 : decode cL_law 778 = .ok (.iadd, 1) := by decide +kernel
theorem dL_law_779 : decode cL_law 779 = .ok (.iaload, 1) := by decide +kernel
theorem dL_law_780 : decode cL_law 780 = .ok (.aload_n 0, 1) := by decide +kernel
theorem dL_law_781 : decode cL_law 781 = .ok (.iload_n 3, 1) := by decide +kernel
theorem dL_law_782 : decode cL_law 782 = .ok (.iconst 2, 1) := by decide +kernel
theorem dL_law_783 : decode cL_law 783 = .ok (.iadd, 1) := by decide +kernel
theorem dL_law_784 : decode cL_law 784 = .ok (.iaload, 1) := by decide +kernel
theorem dL_law_785 : decode cL_law 785 = .ok (.invokevirtual 94, 3) := by decide +kernel
theorem dL_law_788 : decode cL_law 788 = .ok (.aload_n 2, 1) := by decide +kernel
theorem dL_law_789 : decode cL_law 789 = .ok (.aload_n 0, 1) := by decide +kernel
theorem dL_law_790 : decode cL_law 790 = .ok (.iload_n 3, 1) := by decide +kernel
theorem dL_law_791 : decode cL_law 791 = .ok (.iconst 1, 1) := by decide +kernel
theorem dL_law_792 : decode cL_law 792 = .ok (.iadd, 1) := by decide +kernel
theorem dL_law_793 : decode cL_law 793 = .ok (.iaload, 1) := by decide +kernel
theorem dL_law_794 : decode cL_law 794 = .ok (.aload_n 0, 1) := by decide +kernel
theorem dL_law_795 : decode cL_law 795 = .ok (.iload_n 3, 1) := by decide +kernel
theorem dL_law_796 : decode cL_law 796 = .ok (.iconst 2, 1) := by decide +kernel
theorem dL_law_797 : decode cL_law 797 = .ok (.iadd, 1) := by decide +kernel
theorem dL_law_798 : decode cL_law 798 = .ok (.iaload, 1) := by decide +kernel
theorem dL_law_799 : decode cL_law 799 = .ok (.invokevirtual 97, 3) := by decide +kernel
theorem dL_law_802 : decode cL_law 802 = .ok (.if_icmp .eq 220, 3) := by decide +kernel
theorem dL_law_805 : decode cL_law 805 = .ok (.iconst 0, 1) := by decide +kernel
theorem dL_law_806 : decode cL_law 806 = .ok (.ireturn, 1) := by decide +kernel
theorem dL_law_807 : decode cL_law 807 = .ok (.aload_n 1, 1) := by decide +kernel
theorem dL_law_808 : decode cL_law 808 = .ok (.invokevirtual 98, 3) := by decide +kernel
theorem dL_law_811 : decode cL_law 811 = .ok (.aload_n 2, 1) := by decide +kernel
theorem dL_law_812 : decode cL_law 812 = .ok (.invokevirtual 101, 3) := by decide +kernel
theorem dL_law_815 : decode cL_law 815 = .ok (.if_icmp .eq 207, 3) := by decide +kernel
theorem dL_law_818 : decode cL_law 818 = .ok (.iconst 0, 1) := by decide +kernel
theorem dL_law_819 : decode cL_law 819 = .ok (.ireturn, 1) := by decide +kernel
theorem dL_law_820 : decode cL_law 820 = .ok (.aload_n 1, 1) := by decide +kernel
theorem dL_law_821 : decode cL_law 821 = .ok (.aload_n 0, 1) := by decide +kernel
theorem dL_law_822 : decode cL_law 822 = .ok (.iload_n 3, 1) := by decide +kernel
theorem dL_law_823 : decode cL_law 823 = .ok (.iconst 1, 1) := by decide +kernel
theorem dL_law_824 : decode cL_law 824 = .ok (.iadd, 1) := by decide +kernel
theorem dL_law_825 : decode cL_law 825 = .ok (.iaload, 1) := by decide +kernel
theorem dL_law_826 : decode cL_law 826 = .ok (.invokevirtual 102, 3) := by decide +kernel
theorem dL_law_829 : decode cL_law 829 = .ok (.aload_n 2, 1) := by decide +kernel
theorem dL_law_830 : decode cL_law 830 = .ok (.aload_n 0, 1) := by decide +kernel
theorem dL_law_831 : decode cL_law 831 = .ok (.iload_n 3, 1) := by decide +kernel
theorem dL_law_832 : decode cL_law 832 = .ok (.iconst 1, 1) := by decide +kernel
theorem dL_law_833 : decode cL_law 833 = .ok (.iadd, 1) := by decide +kernel
theorem dL_law_834 : decode cL_law 834 = .ok (.iaload, 1) := by decide +kernel
theorem dL_law_835 : decode cL_law 835 = .ok (.invokevirtual 105, 3) := by decide +kernel
theorem dL_law_838 : decode cL_law 838 = .ok (.if_icmp .eq 184, 3) := by decide +kernel
theorem dL_law_841 : decode cL_law 841 = .ok (.iconst 0, 1) := by decide +kernel
theorem dL_law_842 : decode cL_law 842 = .ok (.ireturn, 1) := by decide +kernel
theorem dL_law_843 : decode cL_law 843 = .ok (.aload_n 1, 1) := by decide +kernel
theorem dL_law_844 : decode cL_law 844 = .ok (.aload_n 0, 1) := by decide +kernel
theorem dL_law_845 : decode cL_law 845 = .ok (.iload_n 3, 1) := by decide +kernel
theorem dL_law_846 : decode cL_law 846 = .ok (.iconst 1, 1) := by decide +kernel
theorem dL_law_847 : decode cL_law 847 = .ok (.iadd, 1) := by decide +kernel
theorem dL_law_848 : decode cL_law 848 = .ok (.iaload, 1) := by decide +kernel
theorem dL_law_849 : decode cL_law 849 = .ok (.aload_n 0, 1) := by decide +kernel
theorem dL_law_850 : decode cL_law 850 = .ok (.iload_n 3, 1) := by decide +kernel
theorem dL_law_851 : decode cL_law 851 = .ok (.iconst 2, 1) := by decide +kernel
theorem dL_law_852 : decode cL_law 852 = .ok (.iadd, 1) := by decide +kernel
theorem dL_law_853 : decode cL_law 853 = .ok (.iaload, 1) := by decide +kernel
theorem dL_law_854 : decode cL_law 854 = .ok (.invokevirtual 106, 3) := by decide +kernel
theorem dL_law_857 : decode cL_law 857 = .ok (.aload_n 2, 1) := by decide +kernel
theorem dL_law_858 : decode cL_law 858 = .ok (.aload_n 0, 1) := by decide +kernel
theorem dL_law_859 : decode cL_law 859 = .ok (.iload_n 3, 1) := by decide +kernel
theorem dL_law_860 : decode cL_law 860 = .ok (.iconst 1, 1) := by decide +kernel
theorem dL_law_861 : decode cL_law 861 = .ok (.iadd, 1) := by decide +kernel
theorem dL_law_862 : decode cL_law 862 = .ok (.iaload, 1) := by decide +kernel
theorem dL_law_863 : decode cL_law 863 = .ok (.aload_n 0, 1) := by decide +kernel
theorem dL_law_864 : decode cL_law 864 = .ok (.iload_n 3, 1) := by decide +kernel
theorem dL_law_865 : decode cL_law 865 = .ok (.iconst 2, 1) := by decide +kernel
theorem dL_law_866 : decode cL_law 866 = .ok (.iadd, 1) := by decide +kernel
theorem dL_law_867 : decode cL_law 867 = .ok (.iaload, 1) := by decide +kernel
theorem dL_law_868 : decode cL_law 868 = .ok (.invokevirtual 109, 3) := by decide +kernel
theorem dL_law_871 : decode cL_law 871 = .ok (.lcmp, 1) := by decide +kernel
theorem dL_law_872 : decode cL_law 872 = .ok (.ifCond .eq 150, 3) := by decide +kernel
theorem dL_law_875 : decode cL_law 875 = .ok (.iconst 0, 1) := by decide +kernel
theorem dL_law_876 : decode cL_law 876 = .ok (.ireturn, 1) := by decide +kernel
theorem dL_law_877 : decode cL_law 877 = .ok (.aload_n 1, 1) := by decide +kernel
theorem dL_law_878 : decode cL_law 878 = .ok (.aload_n 0, 1) := by decide +kernel
theorem dL_law_879 : decode cL_law 879 = .ok (.iload_n 3, 1) := by decide +kernel
theorem dL_law_880 : decode cL_law 880 = .ok (.iconst 1, 1) := by decide +kernel
theorem dL_law_881 : decode cL_law 881 = .ok (.iadd, 1) := by decide +kernel
theorem dL_law_882 : decode cL_law 882 = .ok (.iaload, 1) := by decide +kernel
theorem dL_law_883 : decode cL_law 883 = .ok (.invokevirtual 110, 3) := by decide +kernel
theorem dL_law_886 : decode cL_law 886 = .ok (.aload_n 2, 1) := by decide +kernel
theorem dL_law_887 : decode cL_law 887 = .ok (.aload_n 0, 1) := by decide +kernel
theorem dL_law_888 : decode cL_law 888 = .ok (.iload_n 3, 1) := by decide +kernel
theorem dL_law_889 : decode cL_law 889 = .ok (.iconst 1, 1) := by decide +kernel
theorem dL_law_890 : decode cL_law 890 = .ok (.iadd, 1) := by decide +kernel
theorem dL_law_891 : decode cL_law 891 = .ok (.iaload, 1) := by decide +kernel
theorem dL_law_892 : decode cL_law 892 = .ok (.invokevirtual 113, 3) := by decide +kernel
theorem dL_law_895 : decode cL_law 895 = .ok (.if_icmp .eq 127, 3) := by decide +kernel
theorem dL_law_898 : decode cL_law 898 = .ok (.iconst 0, 1) := by decide +kernel
theorem dL_law_899 : decode cL_law 899 = .ok (.ireturn, 1) := by decide +kernel
theorem dL_law_900 : decode cL_law 900 = .ok (.aload_n 1, 1) := by decide +kernel
theorem dL_law_901 : decode cL_law 901 = .ok (.invokevirtual 114, 3) := by decide +kernel
theorem dL_law_904 : decode cL_law 904 = .ok (.aload_n 2, 1) := by decide +kernel
theorem dL_law_905 : decode cL_law 905 = .ok (.invokevirtual 118, 3) := by decide +kernel
theorem dL_law_908 : decode cL_law 908 = .ok (.lcmp, 1) := by decide +kernel
theorem dL_law_909 : decode cL_law 909 = .ok (.ifCond .eq 113, 3) := by decide +kernel
theorem dL_law_912 : decode cL_law 912 = .ok (.iconst 0, 1) := by decide +kernel
theorem dL_law_913 : decode cL_law 913 = .ok (.ireturn, 1) := by decide +kernel
theorem dL_law_914 : decode cL_law 914 = .ok (.aload_n 1, 1) := by decide +kernel
theorem dL_law_915 : decode cL_law 915 = .ok (.invokevirtual 119, 3) := by decide +kernel
theorem dL_law_918 : decode cL_law 918 = .ok (.aload_n 2, 1) := by decide +kernel
theorem dL_law_919 : decode cL_law 919 = .ok (.invokevirtual 122, 3) := by decide +kernel
theorem dL_law_922 : decode cL_law 922 = .ok (.if_icmp .eq 100, 3) := by decide +kernel
theorem dL_law_925 : decode cL_law 925 = .ok (.iconst 0, 1) := by decide +kernel
theorem dL_law_926 : decode cL_law 926 = .ok (.ireturn, 1) := by decide +kernel
theorem dL_law_927 : decode cL_law 927 = .ok (.aload_n 1, 1) := by decide +kernel
theorem dL_law_928 : decode cL_law 928 = .ok (.aload_n 0, 1) := by decide +kernel
theorem dL_law_929 : decode cL_law 929 = .ok (.iload_n 3, 1) := by decide +kernel
theorem dL_law_930 : decode cL_law 930 = .ok (.iconst 1, 1) := by decide +kernel
theorem dL_law_931 : decode cL_law 931 = .ok (.iadd, 1) := by decide +kernel
theorem dL_law_932 : decode cL_law 932 = .ok (.iaload, 1) := by decide +kernel
theorem dL_law_933 : decode cL_law 933 = .ok (.invokevirtual 123, 3) := by decide +kernel
theorem dL_law_936 : decode cL_law 936 = .ok (.aload_n 2, 1) := by decide +kernel
theorem dL_law_937 : decode cL_law 937 = .ok (.aload_n 0, 1) := by decide +kernel
theorem dL_law_938 : decode cL_law 938 = .ok (.iload_n 3, 1) := by decide +kernel
theorem dL_law_939 : decode cL_law 939 = .ok (.iconst 1, 1) := by decide +kernel
theorem dL_law_940 : decode cL_law 940 = .ok (.iadd, 1) := by decide +kernel
theorem dL_law_941 : decode cL_law 941 = .ok (.iaload, 1) := by decide +kernel
theorem dL_law_942 : decode cL_law 942 = .ok (.invokevirtual 126, 3) := by decide +kernel
theorem dL_law_945 : decode cL_law 945 = .ok (.if_icmp .eq 77, 3) := by decide +kernel
theorem dL_law_948 : decode cL_law 948 = .ok (.iconst 0, 1) := by decide +kernel
theorem dL_law_949 : decode cL_law 949 = .ok (.ireturn, 1) := by decide +kernel
theorem dL_law_950 : decode cL_law 950 = .ok (.aload_n 1, 1) := by decide +kernel
theorem dL_law_951 : decode cL_law 951 = .ok (.aload_n 0, 1) := by decide +kernel
theorem dL_law_952 : decode cL_law 952 = .ok (.iload_n 3, 1) := by decide +kernel
theorem dL_law_953 : decode cL_law 953 = .ok (.iconst 1, 1) := by decide +kernel
theorem dL_law_954 : decode cL_law 954 = .ok (.iadd, 1) := by decide +kernel
theorem dL_law_955 : decode cL_law 955 = .ok (.iaload, 1) := by decide +kernel
theorem dL_law_956 : decode cL_law 956 = .ok (.invokevirtual 127, 3) := by decide +kernel
theorem dL_law_959 : decode cL_law 959 = .ok (.aload_n 2, 1) := by decide +kernel
theorem dL_law_960 : decode cL_law 960 = .ok (.aload_n 0, 1) := by decide +kernel
theorem dL_law_961 : decode cL_law 961 = .ok (.iload_n 3, 1) := by decide +kernel
theorem dL_law_962 : decode cL_law 962 = .ok (.iconst 1, 1) := by decide +kernel
theorem dL_law_963 : decode cL_law 963 = .ok (.iadd, 1) := by decide +kernel
theorem dL_law_964 : decode cL_law 964 = .ok (.iaload, 1) := by decide +kernel
theorem dL_law_965 : decode cL_law 965 = .ok (.invokevirtual 130, 3) := by decide +kernel
theorem dL_law_968 : decode cL_law 968 = .ok (.if_icmp .eq 54, 3) := by decide +kernel
theorem dL_law_971 : decode cL_law 971 = .ok (.iconst 0, 1) := by decide +kernel
theorem dL_law_972 : decode cL_law 972 = .ok (.ireturn, 1) := by decide +kernel
theorem dL_law_973 : decode cL_law 973 = .ok (.aload_n 1, 1) := by decide +kernel
theorem dL_law_974 : decode cL_law 974 = .ok (.aload_n 0, 1) := by decide +kernel
theorem dL_law_975 : decode cL_law 975 = .ok (.iload_n 3, 1) := by decide +kernel
theorem dL_law_976 : decode cL_law 976 = .ok (.iconst 1, 1) := by decide +kernel
theorem dL_law_977 : decode cL_law 977 = .ok (.iadd, 1) := by decide +kernel
theorem dL_law_978 : decode cL_law 978 = .ok (.iaload, 1) := by decide +kernel
theorem dL_law_979 : decode cL_law 979 = .ok (.invokevirtual 131, 3) := by decide +kernel
theorem dL_law_982 : decode cL_law 982 = .ok (.aload_n 2, 1) := by decide +kernel
theorem dL_law_983 : decode cL_law 983 = .ok (.aload_n 0, 1) := by decide +kernel
theorem dL_law_984 : decode cL_law 984 = .ok (.iload_n 3, 1) := by decide +kernel
theorem dL_law_985 : decode cL_law 985 = .ok (.iconst 1, 1) := by decide +kernel
theorem dL_law_986 : decode cL_law 986 = .ok (.iadd, 1) := by decide +kernel
theorem dL_law_987 : decode cL_law 987 = .ok (.iaload, 1) := by decide +kernel
theorem dL_law_988 : decode cL_law 988 = .ok (.invokevirtual 134, 3) := by decide +kernel
theorem dL_law_991 : decode cL_law 991 = .ok (.if_icmp .eq 31, 3) := by decide +kernel
theorem dL_law_994 : decode cL_law 994 = .ok (.iconst 0, 1) := by decide +kernel
theorem dL_law_995 : decode cL_law 995 = .ok (.ireturn, 1) := by decide +kernel
theorem dL_law_996 : decode cL_law 996 = .ok (.aload_n 1, 1) := by decide +kernel
theorem dL_law_997 : decode cL_law 997 = .ok (.invokevirtual 135, 3) := by decide +kernel
theorem dL_law_1000 : decode cL_law 1000 = .ok (.aload_n 2, 1) := by decide +kernel
theorem dL_law_1001 : decode cL_law 1001 = .ok (.invokevirtual 138, 3) := by decide +kernel
theorem dL_law_1004 : decode cL_law 1004 = .ok (.if_icmp .eq 18, 3) := by decide +kernel
theorem dL_law_1007 : decode cL_law 1007 = .ok (.iconst 0, 1) := by decide +kernel
theorem dL_law_1008 : decode cL_law 1008 = .ok (.ireturn, 1) := by decide +kernel
theorem dL_law_1009 : decode cL_law 1009 = .ok (.aload_n 1, 1) := by decide +kernel
theorem dL_law_1010 : decode cL_law 1010 = .ok (.invokevirtual 139, 3) := by decide +kernel
theorem dL_law_1013 : decode cL_law 1013 = .ok (.aload_n 2, 1) := by decide +kernel
theorem dL_law_1014 : decode cL_law 1014 = .ok (.invokevirtual 142, 3) := by decide +kernel
theorem dL_law_1017 : decode cL_law 1017 = .ok (.if_icmp .eq 5, 3) := by decide +kernel
theorem dL_law_1020 : decode cL_law 1020 = .ok (.iconst 0, 1) := by decide +kernel
theorem dL_law_1021 : decode cL_law 1021 = .ok (.ireturn, 1) := by decide +kernel
theorem dL_law_1022 : decode cL_law 1022 = .ok (.iinc 3 4, 3) := by decide +kernel
theorem dL_law_1025 : decode cL_law 1025 = .ok (.goto (-1007), 3) := by decide +kernel
theorem dL_law_1028 : decode cL_law 1028 = .ok (.iconst 1, 1) := by decide +kernel
theorem dL_law_1029 : decode cL_law 1029 = .ok (.ireturn, 1) := by decide +kernel
theorem dJ7_copyOf_c38d5_0 : decode cJ7_copyOf_c38d5 0 = .ok (.iload_n 1, 1) := by decide +kernel
theorem dJ7_copyOf_c38d5_1 : decode cJ7_copyOf_c38d5 1 = .ok (.aload_n 0, 1) := by decide +kernel
theorem dJ7_copyOf_c38d5_2 : decode cJ7_copyOf_c38d5 2 = .ok (.arraylength, 1) := by decide +kernel
theorem dJ7_copyOf_c38d5_3 : decode cJ7_copyOf_c38d5 3 = .ok (.if_icmp .ne 11, 3) := by decide +kernel
theorem dJ7_copyOf_c38d5_6 : decode cJ7_copyOf_c38d5 6 = .ok (.aload_n 0, 1) := by decide +kernel
theorem dJ7_copyOf_c38d5_7 : decode cJ7_copyOf_c38d5 7 = .ok (.invokevirtual 319, 3) := by decide +kernel
theorem dJ7_copyOf_c38d5_10 : decode cJ7_copyOf_c38d5 10 = .ok (.checkcast 320, 3) := by decide +kernel
theorem dJ7_copyOf_c38d5_13 : decode cJ7_copyOf_c38d5 13 = .ok (.areturn, 1) := by decide +kernel
theorem dJ7_copyOf_c38d5_14 : decode cJ7_copyOf_c38d5 14 = .ok (.iload_n 1, 1) := by decide +kernel
theorem dJ7_copyOf_c38d5_15 : decode cJ7_copyOf_c38d5 15 = .ok (.newarray .long, 2) := by decide +kernel
theorem dJ7_copyOf_c38d5_17 : decode cJ7_copyOf_c38d5 17 = .ok (.astore_n 2, 1) := by decide +kernel
theorem dJ7_copyOf_c38d5_18 : decode cJ7_copyOf_c38d5 18 = .ok (.aload_n 0, 1) := by decide +kernel
theorem dJ7_copyOf_c38d5_19 : decode cJ7_copyOf_c38d5 19 = .ok (.iconst 0, 1) := by decide +kernel
theorem dJ7_copyOf_c38d5_20 : decode cJ7_copyOf_c38d5 20 = .ok (.aload_n 2, 1) := by decide +kernel
theorem dJ7_copyOf_c38d5_21 : decode cJ7_copyOf_c38d5 21 = .ok (.iconst 0, 1) := by decide +kernel
theorem dJ7_copyOf_c38d5_22 : decode cJ7_copyOf_c38d5 22 = .ok (.aload_n 0, 1) := by decide +kernel
theorem dJ7_copyOf_c38d5_23 : decode cJ7_copyOf_c38d5 23 = .ok (.arraylength, 1) := by decide +kernel
theorem dJ7_copyOf_c38d5_24 : decode cJ7_copyOf_c38d5 24 = .ok (.iload_n 1, 1) := by decide +kernel
theorem dJ7_copyOf_c38d5_25 : decode cJ7_copyOf_c38d5 25 = .ok (.invokestatic 304, 3) := by decide +kernel
theorem dJ7_copyOf_c38d5_28 : decode cJ7_copyOf_c38d5 28 = .ok (.invokestatic 150, 3) := by decide +kernel
theorem dJ7_copyOf_c38d5_31 : decode cJ7_copyOf_c38d5 31 = .ok (.aload_n 2, 1) := by decide +kernel
theorem dJ7_copyOf_c38d5_32 : decode cJ7_copyOf_c38d5 32 = .ok (.areturn, 1) := by decide +kernel
theorem dJ9_max_7cf53_0 : decode cJ9_max_7cf53 0 = .ok (.iload_n 0, 1) := by decide +kernel
theorem dJ9_max_7cf53_1 : decode cJ9_max_7cf53 1 = .ok (.iload_n 1, 1) := by decide +kernel
theorem dJ9_max_7cf53_2 : decode cJ9_max_7cf53 2 = .ok (.if_icmp .lt 7, 3) := by decide +kernel
theorem dJ9_max_7cf53_5 : decode cJ9_max_7cf53 5 = .ok (.iload_n 0, 1) := by decide +kernel
theorem dJ9_max_7cf53_6 : decode cJ9_max_7cf53 6 = .ok (.goto 4, 3) := by decide +kernel
theorem dJ9_max_7cf53_9 : decode cJ9_max_7cf53 9 = .ok (.iload_n 1, 1) := by decide +kernel
theorem dJ9_max_7cf53_10 : decode cJ9_max_7cf53 10 = .ok (.ireturn, 1) := by decide +kernel
theorem dJ9_max_f86c9_0 : decode cJ9_max_f86c9 0 = .ok (.lload_n 0, 1) := by decide +kernel
theorem dJ9_max_f86c9_1 : decode cJ9_max_f86c9 1 = .ok (.lload_n 2, 1) := by decide +kernel
theorem dJ9_max_f86c9_2 : decode cJ9_max_f86c9 2 = .ok (.lcmp, 1) := by decide +kernel
theorem dJ9_max_f86c9_3 : decode cJ9_max_f86c9 3 = .ok (.ifCond .lt 7, 3) := by decide +kernel
theorem dJ9_max_f86c9_6 : decode cJ9_max_f86c9 6 = .ok (.lload_n 0, 1) := by decide +kernel
theorem dJ9_max_f86c9_7 : decode cJ9_max_f86c9 7 = .ok (.goto 4, 3) := by decide +kernel
theorem dJ9_max_f86c9_10 : decode cJ9_max_f86c9 10 = .ok (.lload_n 2, 1) := by decide +kernel
theorem dJ9_max_f86c9_11 : decode cJ9_max_f86c9 11 = .ok (.lreturn, 1) := by decide +kernel
theorem dJ9_min_7cf53_0 : decode cJ9_min_7cf53 0 = .ok (.iload_n 0, 1) := by decide +kernel
theorem dJ9_min_7cf53_1 : decode cJ9_min_7cf53 1 = .ok (.iload_n 1, 1) := by decide +kernel
theorem dJ9_min_7cf53_2 : decode cJ9_min_7cf53 2 = .ok (.if_icmp .gt 7, 3) := by decide +kernel
theorem dJ9_min_7cf53_5 : decode cJ9_min_7cf53 5 = .ok (.iload_n 0, 1) := by decide +kernel
theorem dJ9_min_7cf53_6 : decode cJ9_min_7cf53 6 = .ok (.goto 4, 3) := by decide +kernel
theorem dJ9_min_7cf53_9 : decode cJ9_min_7cf53 9 = .ok (.iload_n 1, 1) := by decide +kernel
theorem dJ9_min_7cf53_10 : decode cJ9_min_7cf53 10 = .ok (.ireturn, 1) := by decide +kernel
theorem dJ9_min_f86c9_0 : decode cJ9_min_f86c9 0 = .ok (.lload_n 0, 1) := by decide +kernel
theorem dJ9_min_f86c9_1 : decode cJ9_min_f86c9 1 = .ok (.lload_n 2, 1) := by decide +kernel
theorem dJ9_min_f86c9_2 : decode cJ9_min_f86c9 2 = .ok (.lcmp, 1) := by decide +kernel
theorem dJ9_min_f86c9_3 : decode cJ9_min_f86c9 3 = .ok (.ifCond .gt 7, 3) := by decide +kernel
theorem dJ9_min_f86c9_6 : decode cJ9_min_f86c9 6 = .ok (.lload_n 0, 1) := by decide +kernel
theorem dJ9_min_f86c9_7 : decode cJ9_min_f86c9 7 = .ok (.goto 4, 3) := by decide +kernel
theorem dJ9_min_f86c9_10 : decode cJ9_min_f86c9 10 = .ok (.lload_n 2, 1) := by decide +kernel
theorem dJ9_min_f86c9_11 : decode cJ9_min_f86c9 11 = .ok (.lreturn, 1) := by decide +kernel
end
section
/-! ===== methods, and what the tables say at each reference ===== -/
abbrev mX0_init : aM := (yX0_init, cX0_init, 7, none)
abbrev mX0_kind : aM := (yX0_kind, cX0_kind, 1, some .int)
abbrev mX0_asked : aM := (yX0_asked, cX0_asked, 5, some .long)
abbrev mX1_init : aM := (yX1_init, cX1_init, 5, none)
abbrev mX1_kind : aM := (yX1_kind, cX1_kind, 1, some .int)
abbrev mX1_asked : aM := (yX1_asked, cX1_asked, 3, some .long)
abbrev mX1_amount : aM := (yX1_amount, cX1_amount, 4, some .long)
abbrev mX1_gainIn : aM := (yX1_gainIn, cX1_gainIn, 2, some .long)
abbrev mX1_sharedByGainAndStep : aM := (yX1_sharedByGainAndStep, cX1_sharedByGainAndStep, 2, some .int)
abbrev mX1_firstReaching : aM := (yX1_firstReaching, cX1_firstReaching, 7, some .int)
abbrev mX1_isClosed : aM := (yX1_isClosed, cX1_isClosed, 3, some .boolean)
abbrev mX2_init : aM := (yX2_init, cX2_init, 5, none)
abbrev mX2_kind : aM := (yX2_kind, cX2_kind, 1, some .int)
abbrev mX2_asked : aM := (yX2_asked, cX2_asked, 3, some .long)
abbrev mX3_init : aM := (yX3_init, cX3_init, 1, none)
abbrev mX3_fromRow : aM := (yX3_fromRow, cX3_fromRow, 7, some (.object "FlowCurves$Curve"))
abbrev mX3_straight : aM := (yX3_straight, cX3_straight, 2, some (.object "FlowCurves$Curve"))
abbrev mX3_multiplied : aM := (yX3_multiplied, cX3_multiplied, 5, some (.object "FlowCurves$Curve"))
abbrev mX3_delayed : aM := (yX3_delayed, cX3_delayed, 5, some (.object "FlowCurves$Curve"))
abbrev mX3_fromBoth : aM := (yX3_fromBoth, cX3_fromBoth, 7, some (.object "FlowCurves$Curve"))
abbrev mX3_gainOf : aM := (yX3_gainOf, cX3_gainOf, 5, some .long)
abbrev mX3_spread : aM := (yX3_spread, cX3_spread, 3, none)
abbrev mX3_laySideBySide : aM := (yX3_laySideBySide, cX3_laySideBySide, 4, none)
abbrev mX3_layRest : aM := (yX3_layRest, cX3_layRest, 5, none)
abbrev mX3_layBoth : aM := (yX3_layBoth, cX3_layBoth, 5, none)
abbrev mX3_leastTogether : aM := (yX3_leastTogether, cX3_leastTogether, 8, some .long)
abbrev mX3_layOff : aM := (yX3_layOff, cX3_layOff, 7, none)
abbrev mX3_comesRound : aM := (yX3_comesRound, cX3_comesRound, 6, some .boolean)
abbrev mX3_settled : aM := (yX3_settled, cX3_settled, 8, some (.object "FlowCurves$Curve"))
abbrev mX3_leastStep : aM := (yX3_leastStep, cX3_leastStep, 4, some .int)
abbrev mX3_alsoComesRoundBy : aM := (yX3_alsoComesRoundBy, cX3_alsoComesRoundBy, 7, some .boolean)
abbrev mX3_ofItsKind : aM := (yX3_ofItsKind, cX3_ofItsKind, 6, some (.object "FlowCurves$Curve"))
abbrev mX4_commonStep : aM := (yX4_commonStep, cX4_commonStep, 3, some .int)
abbrev mX4_outruns : aM := (yX4_outruns, cX4_outruns, 3, some .boolean)
abbrev mX4_settledSpan : aM := (yX4_settledSpan, cX4_settledSpan, 3, some .int)
abbrev mX4_firstUnlike : aM := (yX4_firstUnlike, cX4_firstUnlike, 5, some .int)
abbrev mX4_greatestLead : aM := (yX4_greatestLead, cX4_greatestLead, 7, some .long)
abbrev mX4_longestWait : aM := (yX4_longestWait, cX4_longestWait, 9, some .int)
abbrev mX5_init : aM := (yX5_init, cX5_init, 5, none)
abbrev mX5_kind : aM := (yX5_kind, cX5_kind, 1, some .int)
abbrev mX5_asked : aM := (yX5_asked, cX5_asked, 3, some .long)
abbrev mX6_init : aM := (yX6_init, cX6_init, 1, none)
abbrev mX6_isFull : aM := (yX6_isFull, cX6_isFull, 1, some .boolean)
abbrev mX6_add : aM := (yX6_add, cX6_add, 3, none)
abbrev mX6_hardestStep : aM := (yX6_hardestStep, cX6_hardestStep, 2, some .long)
abbrev mX6_canFollow : aM := (yX6_canFollow, cX6_canFollow, 3, some .boolean)
abbrev mX6_follow : aM := (yX6_follow, cX6_follow, 4, none)
abbrev mX6_arrived : aM := (yX6_arrived, cX6_arrived, 3, some .long)
abbrev mX6_passed : aM := (yX6_passed, cX6_passed, 6, some .long)
abbrev mX6_held : aM := (yX6_held, cX6_held, 3, some .long)
abbrev mX6_lateness : aM := (yX6_lateness, cX6_lateness, 8, some .int)
abbrev mX6_greatestHeld : aM := (yX6_greatestHeld, cX6_greatestHeld, 5, some .long)
abbrev mX6_greatestLateness : aM := (yX6_greatestLateness, cX6_greatestLateness, 5, some .int)
abbrev mX6_staysWithin : aM := (yX6_staysWithin, cX6_staysWithin, 4, some .boolean)
abbrev mX7_init : aM := (yX7_init, cX7_init, 5, none)
abbrev mX7_kind : aM := (yX7_kind, cX7_kind, 1, some .int)
abbrev mX7_asked : aM := (yX7_asked, cX7_asked, 3, some .long)
abbrev mX8_init : aM := (yX8_init, cX8_init, 1, none)
abbrev mX8_mark : aM := (yX8_mark, cX8_mark, 2, none)
abbrev mX8_marks : aM := (yX8_marks, cX8_marks, 2, some .int)
abbrev mX9_init : aM := (yX9_init, cX9_init, 1, none)
abbrev mX9_put : aM := (yX9_put, cX9_put, 3, some .int)
abbrev mX9_draw : aM := (yX9_draw, cX9_draw, 9, some .int)
abbrev mX9_drop : aM := (yX9_drop, cX9_drop, 2, some .int)
abbrev mX9_curve : aM := (yX9_curve, cX9_curve, 4, some .int)
abbrev mX9_ray : aM := (yX9_ray, cX9_ray, 2, some .int)
abbrev mX9_of : aM := (yX9_of, cX9_of, 7, some .int)
abbrev mX9_times : aM := (yX9_times, cX9_times, 4, some .int)
abbrev mX9_shift : aM := (yX9_shift, cX9_shift, 4, some .int)
abbrev mX9_undo : aM := (yX9_undo, cX9_undo, 1, some .int)
abbrev mX9_at : aM := (yX9_at, cX9_at, 4, some .long)
abbrev mX9_about : aM := (yX9_about, cX9_about, 4, some .int)
abbrev mX9_rate : aM := (yX9_rate, cX9_rate, 6, some .int)
abbrev mX9_unlike : aM := (yX9_unlike, cX9_unlike, 6, some .int)
abbrev mX9_below : aM := (yX9_below, cX9_below, 7, some .int)
abbrev mX9_first : aM := (yX9_first, cX9_first, 6, some .int)
abbrev mX9_heap : aM := (yX9_heap, cX9_heap, 6, some .long)
abbrev mX9_wait : aM := (yX9_wait, cX9_wait, 7, some .int)
abbrev mX9_come : aM := (yX9_come, cX9_come, 2, some .int)
abbrev mX9_hardest : aM := (yX9_hardest, cX9_hardest, 4, some .int)
abbrev mX9_stop : aM := (yX9_stop, cX9_stop, 2, some .int)
abbrev mX9_serve : aM := (yX9_serve, cX9_serve, 2, some .int)
abbrev mX9_moved : aM := (yX9_moved, cX9_moved, 4, some .long)
abbrev mX9_late : aM := (yX9_late, cX9_late, 4, some .int)
abbrev mX9_mostHeld : aM := (yX9_mostHeld, cX9_mostHeld, 2, some .long)
abbrev mX9_mostLate : aM := (yX9_mostLate, cX9_mostLate, 3, some .int)
abbrev mX9_keeps : aM := (yX9_keeps, cX9_keeps, 3, some .int)
abbrev mX9_count : aM := (yX9_count, cX9_count, 2, some .int)
abbrev mX9_trace : aM := (yX9_trace, cX9_trace, 2, some .int)
abbrev mX9_status : aM := (yX9_status, cX9_status, 1, some .int)
abbrev mX9_clear : aM := (yX9_clear, cX9_clear, 2, some .int)
abbrev mX9_refused : aM := (yX9_refused, cX9_refused, 2, some .int)
abbrev mX9_refusedAmount : aM := (yX9_refusedAmount, cX9_refusedAmount, 2, some .long)
abbrev mX9_granted : aM := (yX9_granted, cX9_granted, 2, some .int)
abbrev mX9_grantedAmount : aM := (yX9_grantedAmount, cX9_grantedAmount, 3, some .long)
abbrev mX9_curveNumbered : aM := (yX9_curveNumbered, cX9_curveNumbered, 2, some (.object "FlowCurves$Curve"))
abbrev mX9_kept : aM := (yX9_kept, cX9_kept, 2, some .int)
abbrev mX9_rowComesRound : aM := (yX9_rowComesRound, cX9_rowComesRound, 5, some .boolean)
abbrev mX10_init : aM := (yX10_init, cX10_init, 1, none)
abbrev mX10_in : aM := (yX10_in, cX10_in, 6, some .boolean)
abbrev mX10_refuse : aM := (yX10_refuse, cX10_refuse, 2, some .int)
abbrev mX10_fine : aM := (yX10_fine, cX10_fine, 2, some .int)
abbrev mX10_fineLong : aM := (yX10_fineLong, cX10_fineLong, 3, some .long)
abbrev mX10_none : aM := (yX10_none, cX10_none, 2, some .long)
abbrev mX10_isCurve : aM := (yX10_isCurve, cX10_isCurve, 2, some .boolean)
abbrev mX10_value : aM := (yX10_value, cX10_value, 6, some .long)
abbrev mX10_comesRound : aM := (yX10_comesRound, cX10_comesRound, 7, some .boolean)
abbrev mX10_kindOf : aM := (yX10_kindOf, cX10_kindOf, 8, some .int)
abbrev mX10_settle : aM := (yX10_settle, cX10_settle, 11, some .int)
abbrev mX10_put : aM := (yX10_put, cX10_put, 3, some .int)
abbrev mX10_draw : aM := (yX10_draw, cX10_draw, 6, some .int)
abbrev mX10_drop : aM := (yX10_drop, cX10_drop, 2, some .int)
abbrev mX10_curve : aM := (yX10_curve, cX10_curve, 5, some .int)
abbrev mX10_ray : aM := (yX10_ray, cX10_ray, 3, some .int)
abbrev mX10_divisor : aM := (yX10_divisor, cX10_divisor, 5, some .int)
abbrev mX10_together : aM := (yX10_together, cX10_together, 3, some .int)
abbrev mX10_gainIn : aM := (yX10_gainIn, cX10_gainIn, 3, some .long)
abbrev mX10_least : aM := (yX10_least, cX10_least, 9, some .long)
abbrev mX10_most : aM := (yX10_most, cX10_most, 11, some .long)
abbrev mX10_make : aM := (yX10_make, cX10_make, 12, none)
abbrev mX10_of : aM := (yX10_of, cX10_of, 11, some .int)
abbrev mX10_times : aM := (yX10_times, cX10_times, 4, some .int)
abbrev mX10_shift : aM := (yX10_shift, cX10_shift, 4, some .int)
abbrev mX10_undo : aM := (yX10_undo, cX10_undo, 1, some .int)
abbrev mX10_at : aM := (yX10_at, cX10_at, 3, some .long)
abbrev mX10_isClosed : aM := (yX10_isClosed, cX10_isClosed, 6, some .boolean)
abbrev mX10_about : aM := (yX10_about, cX10_about, 3, some .int)
abbrev mX10_rate : aM := (yX10_rate, cX10_rate, 4, some .int)
abbrev mX10_latest : aM := (yX10_latest, cX10_latest, 3, some .int)
abbrev mX10_unlike : aM := (yX10_unlike, cX10_unlike, 6, some .int)
abbrev mX10_below : aM := (yX10_below, cX10_below, 6, some .int)
abbrev mX10_spanOf : aM := (yX10_spanOf, cX10_spanOf, 12, some .long)
abbrev mX10_first : aM := (yX10_first, cX10_first, 4, some .int)
abbrev mX10_heap : aM := (yX10_heap, cX10_heap, 4, some .long)
abbrev mX10_wait : aM := (yX10_wait, cX10_wait, 9, some .int)
abbrev mX10_come : aM := (yX10_come, cX10_come, 2, some .int)
abbrev mX10_hardest : aM := (yX10_hardest, cX10_hardest, 4, some .int)
abbrev mX10_stop : aM := (yX10_stop, cX10_stop, 2, some .int)
abbrev mX10_serve : aM := (yX10_serve, cX10_serve, 2, some .int)
abbrev mX10_came : aM := (yX10_came, cX10_came, 5, some .long)
abbrev mX10_served : aM := (yX10_served, cX10_served, 9, some .long)
abbrev mX10_moved : aM := (yX10_moved, cX10_moved, 3, some .long)
abbrev mX10_lateAt : aM := (yX10_lateAt, cX10_lateAt, 5, some .int)
abbrev mX10_late : aM := (yX10_late, cX10_late, 3, some .int)
abbrev mX10_mostHeld : aM := (yX10_mostHeld, cX10_mostHeld, 6, some .long)
abbrev mX10_mostLate : aM := (yX10_mostLate, cX10_mostLate, 4, some .int)
abbrev mX10_keeps : aM := (yX10_keeps, cX10_keeps, 5, some .int)
abbrev mX10_count : aM := (yX10_count, cX10_count, 2, some .int)
abbrev mX10_trace : aM := (yX10_trace, cX10_trace, 2, some .int)
abbrev mX10_status : aM := (yX10_status, cX10_status, 1, some .int)
abbrev mX10_clear : aM := (yX10_clear, cX10_clear, 1, some .int)
abbrev mJ9_max_7cf53 : aM := (yJ9_max_7cf53, cJ9_max_7cf53, 2, some .int)
abbrev mJ9_max_f86c9 : aM := (yJ9_max_f86c9, cJ9_max_f86c9, 4, some .long)
abbrev mJ9_min_7cf53 : aM := (yJ9_min_7cf53, cJ9_min_7cf53, 2, some .int)
abbrev mJ9_min_f86c9 : aM := (yJ9_min_f86c9, cJ9_min_f86c9, 4, some .long)
abbrev mJ7_copyOf_c38d5 : aM := (yJ7_copyOf_c38d5, cJ7_copyOf_c38d5, 3, some (.array .long))
theorem cal_X0_init : aCal mX0_init := ⟨lw_okI 209 (by decide +kernel) (by decide +kernel), lw_okI 47 (by decide +kernel) (by decide +kernel), ⟨by decide +kernel, by decide +kernel⟩, by decide⟩
theorem cal_X0_kind : aCal mX0_kind := ⟨lw_okI 447 (by decide +kernel) (by decide +kernel), lw_okI 47 (by decide +kernel) (by decide +kernel), ⟨by decide +kernel, by decide +kernel⟩, by decide⟩
theorem cal_X0_asked : aCal mX0_asked := ⟨lw_okI 412 (by decide +kernel) (by decide +kernel), lw_okI 47 (by decide +kernel) (by decide +kernel), ⟨by decide +kernel, by decide +kernel⟩, by decide⟩
theorem cal_X1_init : aCal mX1_init := ⟨lw_okI 215 (by decide +kernel) (by decide +kernel), lw_okI 45 (by decide +kernel) (by decide +kernel), ⟨by decide +kernel, by decide +kernel⟩, by decide⟩
theorem cal_X1_kind : aCal mX1_kind := ⟨lw_okI 457 (by decide +kernel) (by decide +kernel), lw_okI 45 (by decide +kernel) (by decide +kernel), ⟨by decide +kernel, by decide +kernel⟩, by decide⟩
theorem cal_X1_asked : aCal mX1_asked := ⟨lw_okI 430 (by decide +kernel) (by decide +kernel), lw_okI 45 (by decide +kernel) (by decide +kernel), ⟨by decide +kernel, by decide +kernel⟩, by decide⟩
theorem cal_X1_amount : aCal mX1_amount := ⟨lw_okI 341 (by decide +kernel) (by decide +kernel), lw_okI 45 (by decide +kernel) (by decide +kernel), ⟨by decide +kernel, by decide +kernel⟩, by decide⟩
theorem cal_X1_gainIn : aCal mX1_gainIn := ⟨lw_okI 322 (by decide +kernel) (by decide +kernel), lw_okI 45 (by decide +kernel) (by decide +kernel), ⟨by decide +kernel, by decide +kernel⟩, by decide⟩
theorem cal_X1_sharedByGainAndStep : aCal mX1_sharedByGainAndStep := ⟨lw_okI 479 (by decide +kernel) (by decide +kernel), lw_okI 45 (by decide +kernel) (by decide +kernel), ⟨by decide +kernel, by decide +kernel⟩, by decide⟩
theorem cal_X1_firstReaching : aCal mX1_firstReaching := ⟨lw_okI 512 (by decide +kernel) (by decide +kernel), lw_okI 45 (by decide +kernel) (by decide +kernel), ⟨by decide +kernel, by decide +kernel⟩, by decide⟩
theorem cal_X1_isClosed : aCal mX1_isClosed := ⟨lw_okI 466 (by decide +kernel) (by decide +kernel), lw_okI 45 (by decide +kernel) (by decide +kernel), ⟨by decide +kernel, by decide +kernel⟩, by decide⟩
theorem cal_X2_init : aCal mX2_init := ⟨lw_okI 262 (by decide +kernel) (by decide +kernel), lw_okI 48 (by decide +kernel) (by decide +kernel), ⟨by decide +kernel, by decide +kernel⟩, by decide⟩
theorem cal_X2_kind : aCal mX2_kind := ⟨lw_okI 450 (by decide +kernel) (by decide +kernel), lw_okI 48 (by decide +kernel) (by decide +kernel), ⟨by decide +kernel, by decide +kernel⟩, by decide⟩
theorem cal_X2_asked : aCal mX2_asked := ⟨lw_okI 423 (by decide +kernel) (by decide +kernel), lw_okI 48 (by decide +kernel) (by decide +kernel), ⟨by decide +kernel, by decide +kernel⟩, by decide⟩
theorem cal_X3_init : aCal mX3_init := ⟨lw_okI 91 (by decide +kernel) (by decide +kernel), lw_okI 40 (by decide +kernel) (by decide +kernel), ⟨by decide +kernel, by decide +kernel⟩, by decide⟩
theorem cal_X3_fromRow : aCal mX3_fromRow := ⟨lw_okI 171 (by decide +kernel) (by decide +kernel), lw_okI 40 (by decide +kernel) (by decide +kernel), ⟨by decide +kernel, by decide +kernel⟩, by decide⟩
theorem cal_X3_straight : aCal mX3_straight := ⟨lw_okI 299 (by decide +kernel) (by decide +kernel), lw_okI 40 (by decide +kernel) (by decide +kernel), ⟨by decide +kernel, by decide +kernel⟩, by decide⟩
theorem cal_X3_multiplied : aCal mX3_multiplied := ⟨lw_okI 384 (by decide +kernel) (by decide +kernel), lw_okI 40 (by decide +kernel) (by decide +kernel), ⟨by decide +kernel, by decide +kernel⟩, by decide⟩
theorem cal_X3_delayed : aCal mX3_delayed := ⟨lw_okI 392 (by decide +kernel) (by decide +kernel), lw_okI 40 (by decide +kernel) (by decide +kernel), ⟨by decide +kernel, by decide +kernel⟩, by decide⟩
theorem cal_X3_fromBoth : aCal mX3_fromBoth := ⟨lw_okI 326 (by decide +kernel) (by decide +kernel), lw_okI 40 (by decide +kernel) (by decide +kernel), ⟨by decide +kernel, by decide +kernel⟩, by decide⟩
theorem cal_X3_gainOf : aCal mX3_gainOf := ⟨lw_okI 372 (by decide +kernel) (by decide +kernel), lw_okI 40 (by decide +kernel) (by decide +kernel), ⟨by decide +kernel, by decide +kernel⟩, by decide⟩
theorem cal_X3_spread : aCal mX3_spread := ⟨lw_okI 332 (by decide +kernel) (by decide +kernel), lw_okI 40 (by decide +kernel) (by decide +kernel), ⟨by decide +kernel, by decide +kernel⟩, by decide⟩
theorem cal_X3_laySideBySide : aCal mX3_laySideBySide := ⟨lw_okI 345 (by decide +kernel) (by decide +kernel), lw_okI 40 (by decide +kernel) (by decide +kernel), ⟨by decide +kernel, by decide +kernel⟩, by decide⟩
theorem cal_X3_layRest : aCal mX3_layRest := ⟨lw_okI 355 (by decide +kernel) (by decide +kernel), lw_okI 40 (by decide +kernel) (by decide +kernel), ⟨by decide +kernel, by decide +kernel⟩, by decide⟩
theorem cal_X3_layBoth : aCal mX3_layBoth := ⟨lw_okI 359 (by decide +kernel) (by decide +kernel), lw_okI 40 (by decide +kernel) (by decide +kernel), ⟨by decide +kernel, by decide +kernel⟩, by decide⟩
theorem cal_X3_leastTogether : aCal mX3_leastTogether := ⟨lw_okI 363 (by decide +kernel) (by decide +kernel), lw_okI 40 (by decide +kernel) (by decide +kernel), ⟨by decide +kernel, by decide +kernel⟩, by decide⟩
theorem cal_X3_layOff : aCal mX3_layOff := ⟨lw_okI 368 (by decide +kernel) (by decide +kernel), lw_okI 40 (by decide +kernel) (by decide +kernel), ⟨by decide +kernel, by decide +kernel⟩, by decide⟩
theorem cal_X3_comesRound : aCal mX3_comesRound := ⟨lw_okI 376 (by decide +kernel) (by decide +kernel), lw_okI 40 (by decide +kernel) (by decide +kernel), ⟨by decide +kernel, by decide +kernel⟩, by decide⟩
theorem cal_X3_settled : aCal mX3_settled := ⟨lw_okI 175 (by decide +kernel) (by decide +kernel), lw_okI 40 (by decide +kernel) (by decide +kernel), ⟨by decide +kernel, by decide +kernel⟩, by decide⟩
theorem cal_X3_leastStep : aCal mX3_leastStep := ⟨lw_okI 179 (by decide +kernel) (by decide +kernel), lw_okI 40 (by decide +kernel) (by decide +kernel), ⟨by decide +kernel, by decide +kernel⟩, by decide⟩
theorem cal_X3_alsoComesRoundBy : aCal mX3_alsoComesRoundBy := ⟨lw_okI 183 (by decide +kernel) (by decide +kernel), lw_okI 40 (by decide +kernel) (by decide +kernel), ⟨by decide +kernel, by decide +kernel⟩, by decide⟩
theorem cal_X3_ofItsKind : aCal mX3_ofItsKind := ⟨lw_okI 204 (by decide +kernel) (by decide +kernel), lw_okI 40 (by decide +kernel) (by decide +kernel), ⟨by decide +kernel, by decide +kernel⟩, by decide⟩
theorem cal_X4_commonStep : aCal mX4_commonStep := ⟨lw_okI 310 (by decide +kernel) (by decide +kernel), lw_okI 50 (by decide +kernel) (by decide +kernel), ⟨by decide +kernel, by decide +kernel⟩, by decide⟩
theorem cal_X4_outruns : aCal mX4_outruns := ⟨lw_okI 313 (by decide +kernel) (by decide +kernel), lw_okI 50 (by decide +kernel) (by decide +kernel), ⟨by decide +kernel, by decide +kernel⟩, by decide⟩
theorem cal_X4_settledSpan : aCal mX4_settledSpan := ⟨lw_okI 489 (by decide +kernel) (by decide +kernel), lw_okI 50 (by decide +kernel) (by decide +kernel), ⟨by decide +kernel, by decide +kernel⟩, by decide⟩
theorem cal_X4_firstUnlike : aCal mX4_firstUnlike := ⟨lw_okI 486 (by decide +kernel) (by decide +kernel), lw_okI 50 (by decide +kernel) (by decide +kernel), ⟨by decide +kernel, by decide +kernel⟩, by decide⟩
theorem cal_X4_greatestLead : aCal mX4_greatestLead := ⟨lw_okI 498 (by decide +kernel) (by decide +kernel), lw_okI 50 (by decide +kernel) (by decide +kernel), ⟨by decide +kernel, by decide +kernel⟩, by decide⟩
theorem cal_X4_longestWait : aCal mX4_longestWait := ⟨lw_okI 523 (by decide +kernel) (by decide +kernel), lw_okI 50 (by decide +kernel) (by decide +kernel), ⟨by decide +kernel, by decide +kernel⟩, by decide⟩
theorem cal_X5_init : aCal mX5_init := ⟨lw_okI 212 (by decide +kernel) (by decide +kernel), lw_okI 46 (by decide +kernel) (by decide +kernel), ⟨by decide +kernel, by decide +kernel⟩, by decide⟩
theorem cal_X5_kind : aCal mX5_kind := ⟨lw_okI 453 (by decide +kernel) (by decide +kernel), lw_okI 46 (by decide +kernel) (by decide +kernel), ⟨by decide +kernel, by decide +kernel⟩, by decide⟩
theorem cal_X5_asked : aCal mX5_asked := ⟨lw_okI 419 (by decide +kernel) (by decide +kernel), lw_okI 46 (by decide +kernel) (by decide +kernel), ⟨by decide +kernel, by decide +kernel⟩, by decide⟩
theorem cal_X6_init : aCal mX6_init := ⟨lw_okI 65 (by decide +kernel) (by decide +kernel), lw_okI 38 (by decide +kernel) (by decide +kernel), ⟨by decide +kernel, by decide +kernel⟩, by decide⟩
theorem cal_X6_isFull : aCal mX6_isFull := ⟨lw_okI 533 (by decide +kernel) (by decide +kernel), lw_okI 38 (by decide +kernel) (by decide +kernel), ⟨by decide +kernel, by decide +kernel⟩, by decide⟩
theorem cal_X6_add : aCal mX6_add := ⟨lw_okI 537 (by decide +kernel) (by decide +kernel), lw_okI 38 (by decide +kernel) (by decide +kernel), ⟨by decide +kernel, by decide +kernel⟩, by decide⟩
theorem cal_X6_hardestStep : aCal mX6_hardestStep := ⟨lw_okI 548 (by decide +kernel) (by decide +kernel), lw_okI 38 (by decide +kernel) (by decide +kernel), ⟨by decide +kernel, by decide +kernel⟩, by decide⟩
theorem cal_X6_canFollow : aCal mX6_canFollow := ⟨lw_okI 545 (by decide +kernel) (by decide +kernel), lw_okI 38 (by decide +kernel) (by decide +kernel), ⟨by decide +kernel, by decide +kernel⟩, by decide⟩
theorem cal_X6_follow : aCal mX6_follow := ⟨lw_okI 554 (by decide +kernel) (by decide +kernel), lw_okI 38 (by decide +kernel) (by decide +kernel), ⟨by decide +kernel, by decide +kernel⟩, by decide⟩
theorem cal_X6_arrived : aCal mX6_arrived := ⟨lw_okI 571 (by decide +kernel) (by decide +kernel), lw_okI 38 (by decide +kernel) (by decide +kernel), ⟨by decide +kernel, by decide +kernel⟩, by decide⟩
theorem cal_X6_passed : aCal mX6_passed := ⟨lw_okI 576 (by decide +kernel) (by decide +kernel), lw_okI 38 (by decide +kernel) (by decide +kernel), ⟨by decide +kernel, by decide +kernel⟩, by decide⟩
theorem cal_X6_held : aCal mX6_held := ⟨lw_okI 582 (by decide +kernel) (by decide +kernel), lw_okI 38 (by decide +kernel) (by decide +kernel), ⟨by decide +kernel, by decide +kernel⟩, by decide⟩
theorem cal_X6_lateness : aCal mX6_lateness := ⟨lw_okI 591 (by decide +kernel) (by decide +kernel), lw_okI 38 (by decide +kernel) (by decide +kernel), ⟨by decide +kernel, by decide +kernel⟩, by decide⟩
theorem cal_X6_greatestHeld : aCal mX6_greatestHeld := ⟨lw_okI 599 (by decide +kernel) (by decide +kernel), lw_okI 38 (by decide +kernel) (by decide +kernel), ⟨by decide +kernel, by decide +kernel⟩, by decide⟩
theorem cal_X6_greatestLateness : aCal mX6_greatestLateness := ⟨lw_okI 609 (by decide +kernel) (by decide +kernel), lw_okI 38 (by decide +kernel) (by decide +kernel), ⟨by decide +kernel, by decide +kernel⟩, by decide⟩
theorem cal_X6_staysWithin : aCal mX6_staysWithin := ⟨lw_okI 619 (by decide +kernel) (by decide +kernel), lw_okI 38 (by decide +kernel) (by decide +kernel), ⟨by decide +kernel, by decide +kernel⟩, by decide⟩
theorem cal_X7_init : aCal mX7_init := ⟨lw_okI 273 (by decide +kernel) (by decide +kernel), lw_okI 49 (by decide +kernel) (by decide +kernel), ⟨by decide +kernel, by decide +kernel⟩, by decide⟩
theorem cal_X7_kind : aCal mX7_kind := ⟨lw_okI 456 (by decide +kernel) (by decide +kernel), lw_okI 49 (by decide +kernel) (by decide +kernel), ⟨by decide +kernel, by decide +kernel⟩, by decide⟩
theorem cal_X7_asked : aCal mX7_asked := ⟨lw_okI 428 (by decide +kernel) (by decide +kernel), lw_okI 49 (by decide +kernel) (by decide +kernel), ⟨by decide +kernel, by decide +kernel⟩, by decide⟩
theorem cal_X8_init : aCal mX8_init := ⟨lw_okI 80 (by decide +kernel) (by decide +kernel), lw_okI 39 (by decide +kernel) (by decide +kernel), ⟨by decide +kernel, by decide +kernel⟩, by decide⟩
theorem cal_X8_mark : aCal mX8_mark := ⟨lw_okI 416 (by decide +kernel) (by decide +kernel), lw_okI 39 (by decide +kernel) (by decide +kernel), ⟨by decide +kernel, by decide +kernel⟩, by decide⟩
theorem cal_X8_marks : aCal mX8_marks := ⟨lw_okI 631 (by decide +kernel) (by decide +kernel), lw_okI 39 (by decide +kernel) (by decide +kernel), ⟨by decide +kernel, by decide +kernel⟩, by decide⟩
theorem cal_X9_init : aCal mX9_init := ⟨lw_okI 55 (by decide +kernel) (by decide +kernel), lw_okI 37 (by decide +kernel) (by decide +kernel), ⟨by decide +kernel, by decide +kernel⟩, by decide⟩
theorem cal_X9_put : aCal mX9_put := ⟨lw_okI 137 (by decide +kernel) (by decide +kernel), lw_okI 37 (by decide +kernel) (by decide +kernel), ⟨by decide +kernel, by decide +kernel⟩, by decide⟩
theorem cal_X9_draw : aCal mX9_draw := ⟨lw_okI 150 (by decide +kernel) (by decide +kernel), lw_okI 37 (by decide +kernel) (by decide +kernel), ⟨by decide +kernel, by decide +kernel⟩, by decide⟩
theorem cal_X9_drop : aCal mX9_drop := ⟨lw_okI 158 (by decide +kernel) (by decide +kernel), lw_okI 37 (by decide +kernel) (by decide +kernel), ⟨by decide +kernel, by decide +kernel⟩, by decide⟩
theorem cal_X9_curve : aCal mX9_curve := ⟨lw_okI 162 (by decide +kernel) (by decide +kernel), lw_okI 37 (by decide +kernel) (by decide +kernel), ⟨by decide +kernel, by decide +kernel⟩, by decide⟩
theorem cal_X9_ray : aCal mX9_ray := ⟨lw_okI 295 (by decide +kernel) (by decide +kernel), lw_okI 37 (by decide +kernel) (by decide +kernel), ⟨by decide +kernel, by decide +kernel⟩, by decide⟩
theorem cal_X9_of : aCal mX9_of := ⟨lw_okI 303 (by decide +kernel) (by decide +kernel), lw_okI 37 (by decide +kernel) (by decide +kernel), ⟨by decide +kernel, by decide +kernel⟩, by decide⟩
theorem cal_X9_times : aCal mX9_times := ⟨lw_okI 380 (by decide +kernel) (by decide +kernel), lw_okI 37 (by decide +kernel) (by decide +kernel), ⟨by decide +kernel, by decide +kernel⟩, by decide⟩
theorem cal_X9_shift : aCal mX9_shift := ⟨lw_okI 388 (by decide +kernel) (by decide +kernel), lw_okI 37 (by decide +kernel) (by decide +kernel), ⟨by decide +kernel, by decide +kernel⟩, by decide⟩
theorem cal_X9_undo : aCal mX9_undo := ⟨lw_okI 396 (by decide +kernel) (by decide +kernel), lw_okI 37 (by decide +kernel) (by decide +kernel), ⟨by decide +kernel, by decide +kernel⟩, by decide⟩
theorem cal_X9_at : aCal mX9_at := ⟨lw_okI 400 (by decide +kernel) (by decide +kernel), lw_okI 37 (by decide +kernel) (by decide +kernel), ⟨by decide +kernel, by decide +kernel⟩, by decide⟩
theorem cal_X9_about : aCal mX9_about := ⟨lw_okI 440 (by decide +kernel) (by decide +kernel), lw_okI 37 (by decide +kernel) (by decide +kernel), ⟨by decide +kernel, by decide +kernel⟩, by decide⟩
theorem cal_X9_rate : aCal mX9_rate := ⟨lw_okI 470 (by decide +kernel) (by decide +kernel), lw_okI 37 (by decide +kernel) (by decide +kernel), ⟨by decide +kernel, by decide +kernel⟩, by decide⟩
theorem cal_X9_unlike : aCal mX9_unlike := ⟨lw_okI 483 (by decide +kernel) (by decide +kernel), lw_okI 37 (by decide +kernel) (by decide +kernel), ⟨by decide +kernel, by decide +kernel⟩, by decide⟩
theorem cal_X9_below : aCal mX9_below := ⟨lw_okI 495 (by decide +kernel) (by decide +kernel), lw_okI 37 (by decide +kernel) (by decide +kernel), ⟨by decide +kernel, by decide +kernel⟩, by decide⟩
theorem cal_X9_first : aCal mX9_first := ⟨lw_okI 503 (by decide +kernel) (by decide +kernel), lw_okI 37 (by decide +kernel) (by decide +kernel), ⟨by decide +kernel, by decide +kernel⟩, by decide⟩
theorem cal_X9_heap : aCal mX9_heap := ⟨lw_okI 516 (by decide +kernel) (by decide +kernel), lw_okI 37 (by decide +kernel) (by decide +kernel), ⟨by decide +kernel, by decide +kernel⟩, by decide⟩
theorem cal_X9_wait : aCal mX9_wait := ⟨lw_okI 520 (by decide +kernel) (by decide +kernel), lw_okI 37 (by decide +kernel) (by decide +kernel), ⟨by decide +kernel, by decide +kernel⟩, by decide⟩
theorem cal_X9_come : aCal mX9_come := ⟨lw_okI 529 (by decide +kernel) (by decide +kernel), lw_okI 37 (by decide +kernel) (by decide +kernel), ⟨by decide +kernel, by decide +kernel⟩, by decide⟩
theorem cal_X9_hardest : aCal mX9_hardest := ⟨lw_okI 542 (by decide +kernel) (by decide +kernel), lw_okI 37 (by decide +kernel) (by decide +kernel), ⟨by decide +kernel, by decide +kernel⟩, by decide⟩
theorem cal_X9_stop : aCal mX9_stop := ⟨lw_okI 559 (by decide +kernel) (by decide +kernel), lw_okI 37 (by decide +kernel) (by decide +kernel), ⟨by decide +kernel, by decide +kernel⟩, by decide⟩
theorem cal_X9_serve : aCal mX9_serve := ⟨lw_okI 563 (by decide +kernel) (by decide +kernel), lw_okI 37 (by decide +kernel) (by decide +kernel), ⟨by decide +kernel, by decide +kernel⟩, by decide⟩
theorem cal_X9_moved : aCal mX9_moved := ⟨lw_okI 567 (by decide +kernel) (by decide +kernel), lw_okI 37 (by decide +kernel) (by decide +kernel), ⟨by decide +kernel, by decide +kernel⟩, by decide⟩
theorem cal_X9_late : aCal mX9_late := ⟨lw_okI 587 (by decide +kernel) (by decide +kernel), lw_okI 37 (by decide +kernel) (by decide +kernel), ⟨by decide +kernel, by decide +kernel⟩, by decide⟩
theorem cal_X9_mostHeld : aCal mX9_mostHeld := ⟨lw_okI 595 (by decide +kernel) (by decide +kernel), lw_okI 37 (by decide +kernel) (by decide +kernel), ⟨by decide +kernel, by decide +kernel⟩, by decide⟩
theorem cal_X9_mostLate : aCal mX9_mostLate := ⟨lw_okI 605 (by decide +kernel) (by decide +kernel), lw_okI 37 (by decide +kernel) (by decide +kernel), ⟨by decide +kernel, by decide +kernel⟩, by decide⟩
theorem cal_X9_keeps : aCal mX9_keeps := ⟨lw_okI 615 (by decide +kernel) (by decide +kernel), lw_okI 37 (by decide +kernel) (by decide +kernel), ⟨by decide +kernel, by decide +kernel⟩, by decide⟩
theorem cal_X9_count : aCal mX9_count := ⟨lw_okI 623 (by decide +kernel) (by decide +kernel), lw_okI 37 (by decide +kernel) (by decide +kernel), ⟨by decide +kernel, by decide +kernel⟩, by decide⟩
theorem cal_X9_trace : aCal mX9_trace := ⟨lw_okI 627 (by decide +kernel) (by decide +kernel), lw_okI 37 (by decide +kernel) (by decide +kernel), ⟨by decide +kernel, by decide +kernel⟩, by decide⟩
theorem cal_X9_status : aCal mX9_status := ⟨lw_okI 635 (by decide +kernel) (by decide +kernel), lw_okI 37 (by decide +kernel) (by decide +kernel), ⟨by decide +kernel, by decide +kernel⟩, by decide⟩
theorem cal_X9_clear : aCal mX9_clear := ⟨lw_okI 639 (by decide +kernel) (by decide +kernel), lw_okI 37 (by decide +kernel) (by decide +kernel), ⟨by decide +kernel, by decide +kernel⟩, by decide⟩
theorem cal_X9_refused : aCal mX9_refused := ⟨lw_okI 142 (by decide +kernel) (by decide +kernel), lw_okI 37 (by decide +kernel) (by decide +kernel), ⟨by decide +kernel, by decide +kernel⟩, by decide⟩
theorem cal_X9_refusedAmount : aCal mX9_refusedAmount := ⟨lw_okI 404 (by decide +kernel) (by decide +kernel), lw_okI 37 (by decide +kernel) (by decide +kernel), ⟨by decide +kernel, by decide +kernel⟩, by decide⟩
theorem cal_X9_granted : aCal mX9_granted := ⟨lw_okI 146 (by decide +kernel) (by decide +kernel), lw_okI 37 (by decide +kernel) (by decide +kernel), ⟨by decide +kernel, by decide +kernel⟩, by decide⟩
theorem cal_X9_grantedAmount : aCal mX9_grantedAmount := ⟨lw_okI 436 (by decide +kernel) (by decide +kernel), lw_okI 37 (by decide +kernel) (by decide +kernel), ⟨by decide +kernel, by decide +kernel⟩, by decide⟩
theorem cal_X9_curveNumbered : aCal mX9_curveNumbered := ⟨lw_okI 307 (by decide +kernel) (by decide +kernel), lw_okI 37 (by decide +kernel) (by decide +kernel), ⟨by decide +kernel, by decide +kernel⟩, by decide⟩
theorem cal_X9_kept : aCal mX9_kept := ⟨lw_okI 291 (by decide +kernel) (by decide +kernel), lw_okI 37 (by decide +kernel) (by decide +kernel), ⟨by decide +kernel, by decide +kernel⟩, by decide⟩
theorem cal_X9_rowComesRound : aCal mX9_rowComesRound := ⟨lw_okI 167 (by decide +kernel) (by decide +kernel), lw_okI 37 (by decide +kernel) (by decide +kernel), ⟨by decide +kernel, by decide +kernel⟩, by decide⟩
theorem cal_X10_init : aCal mX10_init := ⟨lw_okI 644 (by decide +kernel) (by decide +kernel), lw_okI 41 (by decide +kernel) (by decide +kernel), ⟨by decide +kernel, by decide +kernel⟩, by decide⟩
theorem cal_X10_in : aCal mX10_in := ⟨lw_okI 699 (by decide +kernel) (by decide +kernel), lw_okI 41 (by decide +kernel) (by decide +kernel), ⟨by decide +kernel, by decide +kernel⟩, by decide⟩
theorem cal_X10_refuse : aCal mX10_refuse := ⟨lw_okI 703 (by decide +kernel) (by decide +kernel), lw_okI 41 (by decide +kernel) (by decide +kernel), ⟨by decide +kernel, by decide +kernel⟩, by decide⟩
theorem cal_X10_fine : aCal mX10_fine := ⟨lw_okI 707 (by decide +kernel) (by decide +kernel), lw_okI 41 (by decide +kernel) (by decide +kernel), ⟨by decide +kernel, by decide +kernel⟩, by decide⟩
theorem cal_X10_fineLong : aCal mX10_fineLong := ⟨lw_okI 804 (by decide +kernel) (by decide +kernel), lw_okI 41 (by decide +kernel) (by decide +kernel), ⟨by decide +kernel, by decide +kernel⟩, by decide⟩
theorem cal_X10_none : aCal mX10_none := ⟨lw_okI 799 (by decide +kernel) (by decide +kernel), lw_okI 41 (by decide +kernel) (by decide +kernel), ⟨by decide +kernel, by decide +kernel⟩, by decide⟩
theorem cal_X10_isCurve : aCal mX10_isCurve := ⟨lw_okI 750 (by decide +kernel) (by decide +kernel), lw_okI 41 (by decide +kernel) (by decide +kernel), ⟨by decide +kernel, by decide +kernel⟩, by decide⟩
theorem cal_X10_value : aCal mX10_value := ⟨lw_okI 769 (by decide +kernel) (by decide +kernel), lw_okI 41 (by decide +kernel) (by decide +kernel), ⟨by decide +kernel, by decide +kernel⟩, by decide⟩
theorem cal_X10_comesRound : aCal mX10_comesRound := ⟨lw_okI 733 (by decide +kernel) (by decide +kernel), lw_okI 41 (by decide +kernel) (by decide +kernel), ⟨by decide +kernel, by decide +kernel⟩, by decide⟩
theorem cal_X10_kindOf : aCal mX10_kindOf := ⟨lw_okI 737 (by decide +kernel) (by decide +kernel), lw_okI 41 (by decide +kernel) (by decide +kernel), ⟨by decide +kernel, by decide +kernel⟩, by decide⟩
theorem cal_X10_settle : aCal mX10_settle := ⟨lw_okI 729 (by decide +kernel) (by decide +kernel), lw_okI 41 (by decide +kernel) (by decide +kernel), ⟨by decide +kernel, by decide +kernel⟩, by decide⟩
theorem cal_X10_put : aCal mX10_put := ⟨lw_okI 695 (by decide +kernel) (by decide +kernel), lw_okI 41 (by decide +kernel) (by decide +kernel), ⟨by decide +kernel, by decide +kernel⟩, by decide⟩
theorem cal_X10_draw : aCal mX10_draw := ⟨lw_okI 711 (by decide +kernel) (by decide +kernel), lw_okI 41 (by decide +kernel) (by decide +kernel), ⟨by decide +kernel, by decide +kernel⟩, by decide⟩
theorem cal_X10_drop : aCal mX10_drop := ⟨lw_okI 719 (by decide +kernel) (by decide +kernel), lw_okI 41 (by decide +kernel) (by decide +kernel), ⟨by decide +kernel, by decide +kernel⟩, by decide⟩
theorem cal_X10_curve : aCal mX10_curve := ⟨lw_okI 723 (by decide +kernel) (by decide +kernel), lw_okI 41 (by decide +kernel) (by decide +kernel), ⟨by decide +kernel, by decide +kernel⟩, by decide⟩
theorem cal_X10_ray : aCal mX10_ray := ⟨lw_okI 741 (by decide +kernel) (by decide +kernel), lw_okI 41 (by decide +kernel) (by decide +kernel), ⟨by decide +kernel, by decide +kernel⟩, by decide⟩
theorem cal_X10_divisor : aCal mX10_divisor := ⟨lw_okI 757 (by decide +kernel) (by decide +kernel), lw_okI 41 (by decide +kernel) (by decide +kernel), ⟨by decide +kernel, by decide +kernel⟩, by decide⟩
theorem cal_X10_together : aCal mX10_together := ⟨lw_okI 754 (by decide +kernel) (by decide +kernel), lw_okI 41 (by decide +kernel) (by decide +kernel), ⟨by decide +kernel, by decide +kernel⟩, by decide⟩
theorem cal_X10_gainIn : aCal mX10_gainIn := ⟨lw_okI 761 (by decide +kernel) (by decide +kernel), lw_okI 41 (by decide +kernel) (by decide +kernel), ⟨by decide +kernel, by decide +kernel⟩, by decide⟩
theorem cal_X10_least : aCal mX10_least := ⟨lw_okI 773 (by decide +kernel) (by decide +kernel), lw_okI 41 (by decide +kernel) (by decide +kernel), ⟨by decide +kernel, by decide +kernel⟩, by decide⟩
theorem cal_X10_most : aCal mX10_most := ⟨lw_okI 777 (by decide +kernel) (by decide +kernel), lw_okI 41 (by decide +kernel) (by decide +kernel), ⟨by decide +kernel, by decide +kernel⟩, by decide⟩
theorem cal_X10_make : aCal mX10_make := ⟨lw_okI 765 (by decide +kernel) (by decide +kernel), lw_okI 41 (by decide +kernel) (by decide +kernel), ⟨by decide +kernel, by decide +kernel⟩, by decide⟩
theorem cal_X10_of : aCal mX10_of := ⟨lw_okI 745 (by decide +kernel) (by decide +kernel), lw_okI 41 (by decide +kernel) (by decide +kernel), ⟨by decide +kernel, by decide +kernel⟩, by decide⟩
theorem cal_X10_times : aCal mX10_times := ⟨lw_okI 781 (by decide +kernel) (by decide +kernel), lw_okI 41 (by decide +kernel) (by decide +kernel), ⟨by decide +kernel, by decide +kernel⟩, by decide⟩
theorem cal_X10_shift : aCal mX10_shift := ⟨lw_okI 786 (by decide +kernel) (by decide +kernel), lw_okI 41 (by decide +kernel) (by decide +kernel), ⟨by decide +kernel, by decide +kernel⟩, by decide⟩
theorem cal_X10_undo : aCal mX10_undo := ⟨lw_okI 791 (by decide +kernel) (by decide +kernel), lw_okI 41 (by decide +kernel) (by decide +kernel), ⟨by decide +kernel, by decide +kernel⟩, by decide⟩
theorem cal_X10_at : aCal mX10_at := ⟨lw_okI 795 (by decide +kernel) (by decide +kernel), lw_okI 41 (by decide +kernel) (by decide +kernel), ⟨by decide +kernel, by decide +kernel⟩, by decide⟩
theorem cal_X10_isClosed : aCal mX10_isClosed := ⟨lw_okI 813 (by decide +kernel) (by decide +kernel), lw_okI 41 (by decide +kernel) (by decide +kernel), ⟨by decide +kernel, by decide +kernel⟩, by decide⟩
theorem cal_X10_about : aCal mX10_about := ⟨lw_okI 808 (by decide +kernel) (by decide +kernel), lw_okI 41 (by decide +kernel) (by decide +kernel), ⟨by decide +kernel, by decide +kernel⟩, by decide⟩
theorem cal_X10_rate : aCal mX10_rate := ⟨lw_okI 817 (by decide +kernel) (by decide +kernel), lw_okI 41 (by decide +kernel) (by decide +kernel), ⟨by decide +kernel, by decide +kernel⟩, by decide⟩
theorem cal_X10_latest : aCal mX10_latest := ⟨lw_okI 825 (by decide +kernel) (by decide +kernel), lw_okI 41 (by decide +kernel) (by decide +kernel), ⟨by decide +kernel, by decide +kernel⟩, by decide⟩
theorem cal_X10_unlike : aCal mX10_unlike := ⟨lw_okI 821 (by decide +kernel) (by decide +kernel), lw_okI 41 (by decide +kernel) (by decide +kernel), ⟨by decide +kernel, by decide +kernel⟩, by decide⟩
theorem cal_X10_below : aCal mX10_below := ⟨lw_okI 829 (by decide +kernel) (by decide +kernel), lw_okI 41 (by decide +kernel) (by decide +kernel), ⟨by decide +kernel, by decide +kernel⟩, by decide⟩
theorem cal_X10_spanOf : aCal mX10_spanOf := ⟨lw_okI 837 (by decide +kernel) (by decide +kernel), lw_okI 41 (by decide +kernel) (by decide +kernel), ⟨by decide +kernel, by decide +kernel⟩, by decide⟩
theorem cal_X10_first : aCal mX10_first := ⟨lw_okI 833 (by decide +kernel) (by decide +kernel), lw_okI 41 (by decide +kernel) (by decide +kernel), ⟨by decide +kernel, by decide +kernel⟩, by decide⟩
theorem cal_X10_heap : aCal mX10_heap := ⟨lw_okI 841 (by decide +kernel) (by decide +kernel), lw_okI 41 (by decide +kernel) (by decide +kernel), ⟨by decide +kernel, by decide +kernel⟩, by decide⟩
theorem cal_X10_wait : aCal mX10_wait := ⟨lw_okI 845 (by decide +kernel) (by decide +kernel), lw_okI 41 (by decide +kernel) (by decide +kernel), ⟨by decide +kernel, by decide +kernel⟩, by decide⟩
theorem cal_X10_come : aCal mX10_come := ⟨lw_okI 849 (by decide +kernel) (by decide +kernel), lw_okI 41 (by decide +kernel) (by decide +kernel), ⟨by decide +kernel, by decide +kernel⟩, by decide⟩
theorem cal_X10_hardest : aCal mX10_hardest := ⟨lw_okI 853 (by decide +kernel) (by decide +kernel), lw_okI 41 (by decide +kernel) (by decide +kernel), ⟨by decide +kernel, by decide +kernel⟩, by decide⟩
theorem cal_X10_stop : aCal mX10_stop := ⟨lw_okI 857 (by decide +kernel) (by decide +kernel), lw_okI 41 (by decide +kernel) (by decide +kernel), ⟨by decide +kernel, by decide +kernel⟩, by decide⟩
theorem cal_X10_serve : aCal mX10_serve := ⟨lw_okI 861 (by decide +kernel) (by decide +kernel), lw_okI 41 (by decide +kernel) (by decide +kernel), ⟨by decide +kernel, by decide +kernel⟩, by decide⟩
theorem cal_X10_came : aCal mX10_came := ⟨lw_okI 871 (by decide +kernel) (by decide +kernel), lw_okI 41 (by decide +kernel) (by decide +kernel), ⟨by decide +kernel, by decide +kernel⟩, by decide⟩
theorem cal_X10_served : aCal mX10_served := ⟨lw_okI 875 (by decide +kernel) (by decide +kernel), lw_okI 41 (by decide +kernel) (by decide +kernel), ⟨by decide +kernel, by decide +kernel⟩, by decide⟩
theorem cal_X10_moved : aCal mX10_moved := ⟨lw_okI 865 (by decide +kernel) (by decide +kernel), lw_okI 41 (by decide +kernel) (by decide +kernel), ⟨by decide +kernel, by decide +kernel⟩, by decide⟩
theorem cal_X10_lateAt : aCal mX10_lateAt := ⟨lw_okI 883 (by decide +kernel) (by decide +kernel), lw_okI 41 (by decide +kernel) (by decide +kernel), ⟨by decide +kernel, by decide +kernel⟩, by decide⟩
theorem cal_X10_late : aCal mX10_late := ⟨lw_okI 879 (by decide +kernel) (by decide +kernel), lw_okI 41 (by decide +kernel) (by decide +kernel), ⟨by decide +kernel, by decide +kernel⟩, by decide⟩
theorem cal_X10_mostHeld : aCal mX10_mostHeld := ⟨lw_okI 887 (by decide +kernel) (by decide +kernel), lw_okI 41 (by decide +kernel) (by decide +kernel), ⟨by decide +kernel, by decide +kernel⟩, by decide⟩
theorem cal_X10_mostLate : aCal mX10_mostLate := ⟨lw_okI 891 (by decide +kernel) (by decide +kernel), lw_okI 41 (by decide +kernel) (by decide +kernel), ⟨by decide +kernel, by decide +kernel⟩, by decide⟩
theorem cal_X10_keeps : aCal mX10_keeps := ⟨lw_okI 895 (by decide +kernel) (by decide +kernel), lw_okI 41 (by decide +kernel) (by decide +kernel), ⟨by decide +kernel, by decide +kernel⟩, by decide⟩
theorem cal_X10_count : aCal mX10_count := ⟨lw_okI 899 (by decide +kernel) (by decide +kernel), lw_okI 41 (by decide +kernel) (by decide +kernel), ⟨by decide +kernel, by decide +kernel⟩, by decide⟩
theorem cal_X10_trace : aCal mX10_trace := ⟨lw_okI 903 (by decide +kernel) (by decide +kernel), lw_okI 41 (by decide +kernel) (by decide +kernel), ⟨by decide +kernel, by decide +kernel⟩, by decide⟩
theorem cal_X10_status : aCal mX10_status := ⟨lw_okI 907 (by decide +kernel) (by decide +kernel), lw_okI 41 (by decide +kernel) (by decide +kernel), ⟨by decide +kernel, by decide +kernel⟩, by decide⟩
theorem cal_X10_clear : aCal mX10_clear := ⟨lw_okI 911 (by decide +kernel) (by decide +kernel), lw_okI 41 (by decide +kernel) (by decide +kernel), ⟨by decide +kernel, by decide +kernel⟩, by decide⟩
theorem cal_J9_max_7cf53 : aCal mJ9_max_7cf53 := ⟨lw_okI 329 (by decide +kernel) (by decide +kernel), lw_okI 43 (by decide +kernel) (by decide +kernel), ⟨by decide +kernel, by decide +kernel⟩, by decide⟩
theorem cal_J9_max_f86c9 : aCal mJ9_max_f86c9 := ⟨lw_okI 351 (by decide +kernel) (by decide +kernel), lw_okI 43 (by decide +kernel) (by decide +kernel), ⟨by decide +kernel, by decide +kernel⟩, by decide⟩
theorem cal_J9_min_7cf53 : aCal mJ9_min_7cf53 := ⟨lw_okI 198 (by decide +kernel) (by decide +kernel), lw_okI 43 (by decide +kernel) (by decide +kernel), ⟨by decide +kernel, by decide +kernel⟩, by decide⟩
theorem cal_J9_min_f86c9 : aCal mJ9_min_f86c9 := ⟨lw_okI 348 (by decide +kernel) (by decide +kernel), lw_okI 43 (by decide +kernel) (by decide +kernel), ⟨by decide +kernel, by decide +kernel⟩, by decide⟩
theorem cal_J7_copyOf_c38d5 : aCal mJ7_copyOf_c38d5 := ⟨lw_okI 188 (by decide +kernel) (by decide +kernel), lw_okI 42 (by decide +kernel) (by decide +kernel), ⟨by decide +kernel, by decide +kernel⟩, by decide⟩
theorem cl_L_7 : Cond.classLink RL 7 RX9 ∈ lw_ok := lw_okI 51 (by decide +kernel) (by decide +kernel)
theorem cl_X9_9 : Cond.classLink RX9 9 RX1 ∈ lw_ok := lw_okI 59 (by decide +kernel) (by decide +kernel)
theorem nw_X9_30 : aNew RX9 30 5 [vN, vI 0] := ⟨RX6, TX6, 2, tyX6, rfl, rfl, inX6, tyX6_ok, lw_okI 61 (by decide +kernel) (by decide +kernel), lw_okI 62 (by decide +kernel) (by decide +kernel), lw_okI 38 (by decide +kernel) (by decide +kernel), fun j hj => by rcases (show j = 0 ∨ j = 1 by omega) with rfl | rfl <;> rfl, by intro v hv; simp only [List.mem_cons, List.not_mem_nil, or_false] at hv; rcases hv with rfl | rfl <;> first | trivial | exact okI_0 | exact okJ_0⟩
theorem fl_X6_9 : aFld RX6 9 5 0 := ⟨RX6, "FlowCurves$Run", TX6, 2, rfl, by decide, inX6, lw_okI 67 (by decide +kernel) (by decide +kernel), Or.inl rfl⟩
theorem pu_X6_9 : aPut RX6 9 5 0 (.array .long) true := ⟨RX6, "FlowCurves$Run", TX6, 2, tyX6, rfl, by decide, inX6, lw_okI 67 (by decide +kernel) (by decide +kernel), rfl, tyX6_ok, nmX6, by decide +kernel, rfl, fun _ => rfl⟩
theorem fl_X6_15 : aFld RX6 15 5 1 := ⟨RX6, "FlowCurves$Run", TX6, 2, rfl, by decide, inX6, lw_okI 68 (by decide +kernel) (by decide +kernel), Or.inl rfl⟩
theorem pu_X6_15 : aPut RX6 15 5 1 .int false := ⟨RX6, "FlowCurves$Run", TX6, 2, tyX6, rfl, by decide, inX6, lw_okI 68 (by decide +kernel) (by decide +kernel), rfl, tyX6_ok, nmX6, by decide +kernel, rfl, fun h => absurd h (by decide)⟩
theorem fl_X9_168 : aFldN RX9 168 5 1 := ⟨RX6, "FlowCurves$Run", "FlowCurves", TX6, 2, rfl, by decide, inX6, by decide +kernel, rfl⟩
theorem pu_X9_168 : aPutN RX9 168 5 1 .int := ⟨RX6, "FlowCurves$Run", "FlowCurves", TX6, 2, tyX6, rfl, by decide, inX6, by decide +kernel, rfl, tyX6_ok, nmX6, by decide +kernel, rfl⟩
theorem nw_X9_40 : aNew RX9 40 7 [vN] := ⟨RX8, TX8, 1, tyX8, rfl, rfl, inX8, tyX8_ok, lw_okI 76 (by decide +kernel) (by decide +kernel), lw_okI 77 (by decide +kernel) (by decide +kernel), lw_okI 39 (by decide +kernel) (by decide +kernel), fun j hj => by rcases (show j = 0 by omega) with rfl <;> rfl, by intro v hv; simp only [List.mem_cons, List.not_mem_nil, or_false] at hv; rcases hv with rfl <;> first | trivial | exact okI_0 | exact okJ_0⟩
theorem fl_X8_9 : aFld RX8 9 7 0 := ⟨RX8, "FlowCurves$Tally", TX8, 1, rfl, by decide, inX8, lw_okI 82 (by decide +kernel) (by decide +kernel), Or.inl rfl⟩
theorem pu_X8_9 : aPut RX8 9 7 0 (.array .int) true := ⟨RX8, "FlowCurves$Tally", TX8, 1, tyX8, rfl, by decide, inX8, lw_okI 82 (by decide +kernel) (by decide +kernel), rfl, tyX8_ok, nmX8, by decide +kernel, rfl, fun _ => rfl⟩
theorem nw_X9_47 : aNew RX9 47 3 [vN, vN, vN] := ⟨RX3, TX3, 3, tyX3, rfl, rfl, inX3, tyX3_ok, lw_okI 87 (by decide +kernel) (by decide +kernel), lw_okI 88 (by decide +kernel) (by decide +kernel), lw_okI 40 (by decide +kernel) (by decide +kernel), fun j hj => by rcases (show j = 0 ∨ j = 1 ∨ j = 2 by omega) with rfl | rfl | rfl <;> rfl, by intro v hv; simp only [List.mem_cons, List.not_mem_nil, or_false] at hv; rcases hv with rfl | rfl | rfl <;> first | trivial | exact okI_0 | exact okJ_0⟩
theorem fl_X3_11 : aFld RX3 11 3 0 := ⟨RX3, "FlowCurves$Maker", TX3, 3, rfl, by decide, inX3, lw_okI 93 (by decide +kernel) (by decide +kernel), Or.inl rfl⟩
theorem pu_X3_11 : aPut RX3 11 3 0 (.array .long) true := ⟨RX3, "FlowCurves$Maker", TX3, 3, tyX3, rfl, by decide, inX3, lw_okI 93 (by decide +kernel) (by decide +kernel), rfl, tyX3_ok, nmX3, by decide +kernel, rfl, fun _ => rfl⟩
theorem fl_X3_15 : aFld RX3 15 3 1 := ⟨RX3, "FlowCurves$Maker", TX3, 3, rfl, by decide, inX3, lw_okI 94 (by decide +kernel) (by decide +kernel), Or.inl rfl⟩
theorem pu_X3_15 : aPut RX3 15 3 1 (.array .long) true := ⟨RX3, "FlowCurves$Maker", TX3, 3, tyX3, rfl, by decide, inX3, lw_okI 94 (by decide +kernel) (by decide +kernel), rfl, tyX3_ok, nmX3, by decide +kernel, rfl, fun _ => rfl⟩
theorem fl_X3_18 : aFld RX3 18 3 2 := ⟨RX3, "FlowCurves$Maker", TX3, 3, rfl, by decide, inX3, lw_okI 95 (by decide +kernel) (by decide +kernel), Or.inl rfl⟩
theorem pu_X3_18 : aPut RX3 18 3 2 (.array .long) true := ⟨RX3, "FlowCurves$Maker", TX3, 3, tyX3, rfl, by decide, inX3, lw_okI 95 (by decide +kernel) (by decide +kernel), rfl, tyX3_ok, nmX3, by decide +kernel, rfl, fun _ => rfl⟩
theorem fl_X9_11 : aFld RX9 11 8 0 := ⟨RX9, "FlowCurves", TX9, 10, rfl, by decide, inX9, lw_okI 103 (by decide +kernel) (by decide +kernel), Or.inl rfl⟩
theorem pu_X9_11 : aPut RX9 11 8 0 (.array (.object "FlowCurves$Curve")) true := ⟨RX9, "FlowCurves", TX9, 10, tyX9, rfl, by decide, inX9, lw_okI 103 (by decide +kernel) (by decide +kernel), rfl, tyX9_ok, nmX9, by decide +kernel, rfl, fun _ => rfl⟩
theorem fl_X9_15 : aFld RX9 15 8 1 := ⟨RX9, "FlowCurves", TX9, 10, rfl, by decide, inX9, lw_okI 104 (by decide +kernel) (by decide +kernel), Or.inl rfl⟩
theorem pu_X9_15 : aPut RX9 15 8 1 .int false := ⟨RX9, "FlowCurves", TX9, 10, tyX9, rfl, by decide, inX9, lw_okI 104 (by decide +kernel) (by decide +kernel), rfl, tyX9_ok, nmX9, by decide +kernel, rfl, fun h => absurd h (by decide)⟩
theorem fl_X9_19 : aFld RX9 19 8 2 := ⟨RX9, "FlowCurves", TX9, 10, rfl, by decide, inX9, lw_okI 105 (by decide +kernel) (by decide +kernel), Or.inl rfl⟩
theorem pu_X9_19 : aPut RX9 19 8 2 .boolean false := ⟨RX9, "FlowCurves", TX9, 10, tyX9, rfl, by decide, inX9, lw_okI 105 (by decide +kernel) (by decide +kernel), rfl, tyX9_ok, nmX9, by decide +kernel, rfl, fun h => absurd h (by decide)⟩
theorem fl_X9_23 : aFld RX9 23 8 3 := ⟨RX9, "FlowCurves", TX9, 10, rfl, by decide, inX9, lw_okI 106 (by decide +kernel) (by decide +kernel), Or.inl rfl⟩
theorem pu_X9_23 : aPut RX9 23 8 3 (.array .long) true := ⟨RX9, "FlowCurves", TX9, 10, tyX9, rfl, by decide, inX9, lw_okI 106 (by decide +kernel) (by decide +kernel), rfl, tyX9_ok, nmX9, by decide +kernel, rfl, fun _ => rfl⟩
theorem fl_X9_27 : aFld RX9 27 8 4 := ⟨RX9, "FlowCurves", TX9, 10, rfl, by decide, inX9, lw_okI 107 (by decide +kernel) (by decide +kernel), Or.inl rfl⟩
theorem pu_X9_27 : aPut RX9 27 8 4 .int false := ⟨RX9, "FlowCurves", TX9, 10, tyX9, rfl, by decide, inX9, lw_okI 107 (by decide +kernel) (by decide +kernel), rfl, tyX9_ok, nmX9, by decide +kernel, rfl, fun h => absurd h (by decide)⟩
theorem fl_X9_33 : aFld RX9 33 8 5 := ⟨RX9, "FlowCurves", TX9, 10, rfl, by decide, inX9, lw_okI 108 (by decide +kernel) (by decide +kernel), Or.inl rfl⟩
theorem pu_X9_33 : aPut RX9 33 8 5 (.object "FlowCurves$Run") true := ⟨RX9, "FlowCurves", TX9, 10, tyX9, rfl, by decide, inX9, lw_okI 108 (by decide +kernel) (by decide +kernel), rfl, tyX9_ok, nmX9, by decide +kernel, rfl, fun _ => rfl⟩
theorem fl_X9_37 : aFld RX9 37 8 6 := ⟨RX9, "FlowCurves", TX9, 10, rfl, by decide, inX9, lw_okI 109 (by decide +kernel) (by decide +kernel), Or.inl rfl⟩
theorem pu_X9_37 : aPut RX9 37 8 6 .int false := ⟨RX9, "FlowCurves", TX9, 10, tyX9, rfl, by decide, inX9, lw_okI 109 (by decide +kernel) (by decide +kernel), rfl, tyX9_ok, nmX9, by decide +kernel, rfl, fun h => absurd h (by decide)⟩
theorem fl_X9_43 : aFld RX9 43 8 7 := ⟨RX9, "FlowCurves", TX9, 10, rfl, by decide, inX9, lw_okI 110 (by decide +kernel) (by decide +kernel), Or.inl rfl⟩
theorem pu_X9_43 : aPut RX9 43 8 7 (.object "FlowCurves$Tally") true := ⟨RX9, "FlowCurves", TX9, 10, tyX9, rfl, by decide, inX9, lw_okI 110 (by decide +kernel) (by decide +kernel), rfl, tyX9_ok, nmX9, by decide +kernel, rfl, fun _ => rfl⟩
theorem fl_X9_50 : aFld RX9 50 8 8 := ⟨RX9, "FlowCurves", TX9, 10, rfl, by decide, inX9, lw_okI 111 (by decide +kernel) (by decide +kernel), Or.inl rfl⟩
theorem pu_X9_50 : aPut RX9 50 8 8 (.object "FlowCurves$Maker") true := ⟨RX9, "FlowCurves", TX9, 10, tyX9, rfl, by decide, inX9, lw_okI 111 (by decide +kernel) (by decide +kernel), rfl, tyX9_ok, nmX9, by decide +kernel, rfl, fun _ => rfl⟩
theorem fl_X9_54 : aFld RX9 54 8 9 := ⟨RX9, "FlowCurves", TX9, 10, rfl, by decide, inX9, lw_okI 112 (by decide +kernel) (by decide +kernel), Or.inl rfl⟩
theorem pu_X9_54 : aPut RX9 54 8 9 .int false := ⟨RX9, "FlowCurves", TX9, 10, tyX9, rfl, by decide, inX9, lw_okI 112 (by decide +kernel) (by decide +kernel), rfl, tyX9_ok, nmX9, by decide +kernel, rfl, fun h => absurd h (by decide)⟩
theorem kc_X9_57 : Cond.constantLong RX9 57 (Int64.ofInt (1000000000000)) ∈ lw_ok := lw_okI 138 (by decide +kernel) (by decide +kernel)
theorem kc_X9_66 : Cond.constant RX9 66 (Int32.ofInt (1000000)) ∈ lw_ok := lw_okI 151 (by decide +kernel) (by decide +kernel)
theorem kc_X9_67 : Cond.constantLong RX9 67 (Int64.ofInt (1103515245)) ∈ lw_ok := lw_okI 152 (by decide +kernel) (by decide +kernel)
theorem kc_X9_69 : Cond.constantLong RX9 69 (Int64.ofInt (12345)) ∈ lw_ok := lw_okI 153 (by decide +kernel) (by decide +kernel)
theorem kc_X9_71 : Cond.constantLong RX9 71 (Int64.ofInt (2147483647)) ∈ lw_ok := lw_okI 154 (by decide +kernel) (by decide +kernel)
theorem kc_X9_73 : Cond.constant RX9 73 (Int32.ofInt (1000000000)) ∈ lw_ok := lw_okI 163 (by decide +kernel) (by decide +kernel)
theorem kc_X3_89 : Cond.constantLong RX3 89 (Int64.ofInt (1000000000)) ∈ lw_ok := lw_okI 184 (by decide +kernel) (by decide +kernel)
theorem kc_X3_91 : Cond.constantLong RX3 91 (Int64.ofInt (1000000000000)) ∈ lw_ok := lw_okI 185 (by decide +kernel) (by decide +kernel)
-- classLink java/util/Arrays 320 [J
theorem nw_X3_107 : aNew RX3 107 0 [vI 0, vI 0, vI 0, vN, vJ 0] := ⟨RX0, TX0, 5, tyX0, rfl, rfl, inX0, tyX0_ok, lw_okI 205 (by decide +kernel) (by decide +kernel), lw_okI 206 (by decide +kernel) (by decide +kernel), lw_okI 47 (by decide +kernel) (by decide +kernel), fun j hj => by rcases (show j = 0 ∨ j = 1 ∨ j = 2 ∨ j = 3 ∨ j = 4 by omega) with rfl | rfl | rfl | rfl | rfl <;> rfl, by intro v hv; simp only [List.mem_cons, List.not_mem_nil, or_false] at hv; rcases hv with rfl | rfl | rfl | rfl | rfl <;> first | trivial | exact okI_0 | exact okJ_0⟩
theorem fl_X0_9 : aFld RX0 9 0 4 := ⟨RX0, "FlowCurves$Burst", TX0, 5, rfl, by decide, inX0, lw_okI 217 (by decide +kernel) (by decide +kernel), Or.inl rfl⟩
theorem pu_X0_9 : aPut RX0 9 0 4 .long true := ⟨RX0, "FlowCurves$Burst", TX0, 5, tyX0, rfl, by decide, inX0, lw_okI 217 (by decide +kernel) (by decide +kernel), rfl, tyX0_ok, nmX0, by decide +kernel, rfl, fun _ => rfl⟩
theorem fl_X1_9 : ∀ ci, ci ∈ [0, 1, 2, 4, 6] → aFld RX1 9 ci 0 := by
  intro ci h
  simp only [List.mem_cons, List.not_mem_nil, or_false] at h
  rcases h with rfl | rfl | rfl | rfl | rfl
  · exact ⟨RX0, "FlowCurves$Curve", TX0, 5, rfl, by decide, inX0, lw_okI 218 (by decide +kernel) (by decide +kernel), Or.inl rfl⟩
  · exact ⟨RX1, "FlowCurves$Curve", TX1, 4, rfl, by decide, inX1, lw_okI 218 (by decide +kernel) (by decide +kernel), Or.inl rfl⟩
  · exact ⟨RX2, "FlowCurves$Curve", TX2, 4, rfl, by decide, inX2, lw_okI 218 (by decide +kernel) (by decide +kernel), Or.inl rfl⟩
  · exact ⟨RX5, "FlowCurves$Curve", TX5, 4, rfl, by decide, inX5, lw_okI 218 (by decide +kernel) (by decide +kernel), Or.inl rfl⟩
  · exact ⟨RX7, "FlowCurves$Curve", TX7, 4, rfl, by decide, inX7, lw_okI 218 (by decide +kernel) (by decide +kernel), Or.inl rfl⟩
theorem pu_X1_9 : ∀ ci, ci ∈ [0, 1, 2, 4, 6] → aPut RX1 9 ci 0 .int true := by
  intro ci h
  simp only [List.mem_cons, List.not_mem_nil, or_false] at h
  rcases h with rfl | rfl | rfl | rfl | rfl
  · exact ⟨RX0, "FlowCurves$Curve", TX0, 5, tyX0, rfl, by decide, inX0, lw_okI 218 (by decide +kernel) (by decide +kernel), rfl, tyX0_ok, nmX0, by decide +kernel, rfl, fun _ => rfl⟩
  · exact ⟨RX1, "FlowCurves$Curve", TX1, 4, tyX1, rfl, by decide, inX1, lw_okI 218 (by decide +kernel) (by decide +kernel), rfl, tyX1_ok, nmX1, by decide +kernel, rfl, fun _ => rfl⟩
  · exact ⟨RX2, "FlowCurves$Curve", TX2, 4, tyX2, rfl, by decide, inX2, lw_okI 218 (by decide +kernel) (by decide +kernel), rfl, tyX2_ok, nmX2, by decide +kernel, rfl, fun _ => rfl⟩
  · exact ⟨RX5, "FlowCurves$Curve", TX5, 4, tyX5, rfl, by decide, inX5, lw_okI 218 (by decide +kernel) (by decide +kernel), rfl, tyX5_ok, nmX5, by decide +kernel, rfl, fun _ => rfl⟩
  · exact ⟨RX7, "FlowCurves$Curve", TX7, 4, tyX7, rfl, by decide, inX7, lw_okI 218 (by decide +kernel) (by decide +kernel), rfl, tyX7_ok, nmX7, by decide +kernel, rfl, fun _ => rfl⟩
theorem fl_X2_15 : aFld RX2 15 2 0 := ⟨RX2, "FlowCurves$Late", TX2, 4, rfl, by decide, inX2, lw_okI 219 (by decide +kernel) (by decide +kernel), Or.inr (lw_okI 220 (by decide +kernel) (by decide +kernel))⟩
theorem fl_X3_25 : ∀ ci, ci ∈ [0, 1, 2, 4, 6] → aFld RX3 25 ci 0 := by
  intro ci h
  simp only [List.mem_cons, List.not_mem_nil, or_false] at h
  rcases h with rfl | rfl | rfl | rfl | rfl
  · exact ⟨RX0, "FlowCurves$Curve", TX0, 5, rfl, by decide, inX0, lw_okI 221 (by decide +kernel) (by decide +kernel), Or.inl rfl⟩
  · exact ⟨RX1, "FlowCurves$Curve", TX1, 4, rfl, by decide, inX1, lw_okI 221 (by decide +kernel) (by decide +kernel), Or.inl rfl⟩
  · exact ⟨RX2, "FlowCurves$Curve", TX2, 4, rfl, by decide, inX2, lw_okI 221 (by decide +kernel) (by decide +kernel), Or.inl rfl⟩
  · exact ⟨RX5, "FlowCurves$Curve", TX5, 4, rfl, by decide, inX5, lw_okI 221 (by decide +kernel) (by decide +kernel), Or.inl rfl⟩
  · exact ⟨RX7, "FlowCurves$Curve", TX7, 4, rfl, by decide, inX7, lw_okI 221 (by decide +kernel) (by decide +kernel), Or.inl rfl⟩
theorem fl_X4_19 : ∀ ci, ci ∈ [0, 1, 2, 4, 6] → aFld RX4 19 ci 0 := by
  intro ci h
  simp only [List.mem_cons, List.not_mem_nil, or_false] at h
  rcases h with rfl | rfl | rfl | rfl | rfl
  · exact ⟨RX0, "FlowCurves$Curve", TX0, 5, rfl, by decide, inX0, lw_okI 222 (by decide +kernel) (by decide +kernel), Or.inl rfl⟩
  · exact ⟨RX1, "FlowCurves$Curve", TX1, 4, rfl, by decide, inX1, lw_okI 222 (by decide +kernel) (by decide +kernel), Or.inl rfl⟩
  · exact ⟨RX2, "FlowCurves$Curve", TX2, 4, rfl, by decide, inX2, lw_okI 222 (by decide +kernel) (by decide +kernel), Or.inl rfl⟩
  · exact ⟨RX5, "FlowCurves$Curve", TX5, 4, rfl, by decide, inX5, lw_okI 222 (by decide +kernel) (by decide +kernel), Or.inl rfl⟩
  · exact ⟨RX7, "FlowCurves$Curve", TX7, 4, rfl, by decide, inX7, lw_okI 222 (by decide +kernel) (by decide +kernel), Or.inl rfl⟩
theorem fl_X9_126 : ∀ ci, ci ∈ [0, 1, 2, 4, 6] → aFld RX9 126 ci 0 := by
  intro ci h
  simp only [List.mem_cons, List.not_mem_nil, or_false] at h
  rcases h with rfl | rfl | rfl | rfl | rfl
  · exact ⟨RX0, "FlowCurves$Curve", TX0, 5, rfl, by decide, inX0, lw_okI 223 (by decide +kernel) (by decide +kernel), Or.inl rfl⟩
  · exact ⟨RX1, "FlowCurves$Curve", TX1, 4, rfl, by decide, inX1, lw_okI 223 (by decide +kernel) (by decide +kernel), Or.inl rfl⟩
  · exact ⟨RX2, "FlowCurves$Curve", TX2, 4, rfl, by decide, inX2, lw_okI 223 (by decide +kernel) (by decide +kernel), Or.inl rfl⟩
  · exact ⟨RX5, "FlowCurves$Curve", TX5, 4, rfl, by decide, inX5, lw_okI 223 (by decide +kernel) (by decide +kernel), Or.inl rfl⟩
  · exact ⟨RX7, "FlowCurves$Curve", TX7, 4, rfl, by decide, inX7, lw_okI 223 (by decide +kernel) (by decide +kernel), Or.inl rfl⟩
theorem fl_X1_15 : ∀ ci, ci ∈ [0, 1, 2, 4, 6] → aFld RX1 15 ci 1 := by
  intro ci h
  simp only [List.mem_cons, List.not_mem_nil, or_false] at h
  rcases h with rfl | rfl | rfl | rfl | rfl
  · exact ⟨RX0, "FlowCurves$Curve", TX0, 5, rfl, by decide, inX0, lw_okI 224 (by decide +kernel) (by decide +kernel), Or.inl rfl⟩
  · exact ⟨RX1, "FlowCurves$Curve", TX1, 4, rfl, by decide, inX1, lw_okI 224 (by decide +kernel) (by decide +kernel), Or.inl rfl⟩
  · exact ⟨RX2, "FlowCurves$Curve", TX2, 4, rfl, by decide, inX2, lw_okI 224 (by decide +kernel) (by decide +kernel), Or.inl rfl⟩
  · exact ⟨RX5, "FlowCurves$Curve", TX5, 4, rfl, by decide, inX5, lw_okI 224 (by decide +kernel) (by decide +kernel), Or.inl rfl⟩
  · exact ⟨RX7, "FlowCurves$Curve", TX7, 4, rfl, by decide, inX7, lw_okI 224 (by decide +kernel) (by decide +kernel), Or.inl rfl⟩
theorem pu_X1_15 : ∀ ci, ci ∈ [0, 1, 2, 4, 6] → aPut RX1 15 ci 1 .int true := by
  intro ci h
  simp only [List.mem_cons, List.not_mem_nil, or_false] at h
  rcases h with rfl | rfl | rfl | rfl | rfl
  · exact ⟨RX0, "FlowCurves$Curve", TX0, 5, tyX0, rfl, by decide, inX0, lw_okI 224 (by decide +kernel) (by decide +kernel), rfl, tyX0_ok, nmX0, by decide +kernel, rfl, fun _ => rfl⟩
  · exact ⟨RX1, "FlowCurves$Curve", TX1, 4, tyX1, rfl, by decide, inX1, lw_okI 224 (by decide +kernel) (by decide +kernel), rfl, tyX1_ok, nmX1, by decide +kernel, rfl, fun _ => rfl⟩
  · exact ⟨RX2, "FlowCurves$Curve", TX2, 4, tyX2, rfl, by decide, inX2, lw_okI 224 (by decide +kernel) (by decide +kernel), rfl, tyX2_ok, nmX2, by decide +kernel, rfl, fun _ => rfl⟩
  · exact ⟨RX5, "FlowCurves$Curve", TX5, 4, tyX5, rfl, by decide, inX5, lw_okI 224 (by decide +kernel) (by decide +kernel), rfl, tyX5_ok, nmX5, by decide +kernel, rfl, fun _ => rfl⟩
  · exact ⟨RX7, "FlowCurves$Curve", TX7, 4, tyX7, rfl, by decide, inX7, lw_okI 224 (by decide +kernel) (by decide +kernel), rfl, tyX7_ok, nmX7, by decide +kernel, rfl, fun _ => rfl⟩
theorem fl_X4_9 : ∀ ci, ci ∈ [0, 1, 2, 4, 6] → aFld RX4 9 ci 1 := by
  intro ci h
  simp only [List.mem_cons, List.not_mem_nil, or_false] at h
  rcases h with rfl | rfl | rfl | rfl | rfl
  · exact ⟨RX0, "FlowCurves$Curve", TX0, 5, rfl, by decide, inX0, lw_okI 225 (by decide +kernel) (by decide +kernel), Or.inl rfl⟩
  · exact ⟨RX1, "FlowCurves$Curve", TX1, 4, rfl, by decide, inX1, lw_okI 225 (by decide +kernel) (by decide +kernel), Or.inl rfl⟩
  · exact ⟨RX2, "FlowCurves$Curve", TX2, 4, rfl, by decide, inX2, lw_okI 225 (by decide +kernel) (by decide +kernel), Or.inl rfl⟩
  · exact ⟨RX5, "FlowCurves$Curve", TX5, 4, rfl, by decide, inX5, lw_okI 225 (by decide +kernel) (by decide +kernel), Or.inl rfl⟩
  · exact ⟨RX7, "FlowCurves$Curve", TX7, 4, rfl, by decide, inX7, lw_okI 225 (by decide +kernel) (by decide +kernel), Or.inl rfl⟩
theorem fl_X7_15 : aFld RX7 15 6 1 := ⟨RX7, "FlowCurves$Stair", TX7, 4, rfl, by decide, inX7, lw_okI 226 (by decide +kernel) (by decide +kernel), Or.inr (lw_okI 227 (by decide +kernel) (by decide +kernel))⟩
theorem fl_X3_31 : ∀ ci, ci ∈ [0, 1, 2, 4, 6] → aFld RX3 31 ci 1 := by
  intro ci h
  simp only [List.mem_cons, List.not_mem_nil, or_false] at h
  rcases h with rfl | rfl | rfl | rfl | rfl
  · exact ⟨RX0, "FlowCurves$Curve", TX0, 5, rfl, by decide, inX0, lw_okI 228 (by decide +kernel) (by decide +kernel), Or.inl rfl⟩
  · exact ⟨RX1, "FlowCurves$Curve", TX1, 4, rfl, by decide, inX1, lw_okI 228 (by decide +kernel) (by decide +kernel), Or.inl rfl⟩
  · exact ⟨RX2, "FlowCurves$Curve", TX2, 4, rfl, by decide, inX2, lw_okI 228 (by decide +kernel) (by decide +kernel), Or.inl rfl⟩
  · exact ⟨RX5, "FlowCurves$Curve", TX5, 4, rfl, by decide, inX5, lw_okI 228 (by decide +kernel) (by decide +kernel), Or.inl rfl⟩
  · exact ⟨RX7, "FlowCurves$Curve", TX7, 4, rfl, by decide, inX7, lw_okI 228 (by decide +kernel) (by decide +kernel), Or.inl rfl⟩
theorem fl_X9_129 : ∀ ci, ci ∈ [0, 1, 2, 4, 6] → aFld RX9 129 ci 1 := by
  intro ci h
  simp only [List.mem_cons, List.not_mem_nil, or_false] at h
  rcases h with rfl | rfl | rfl | rfl | rfl
  · exact ⟨RX0, "FlowCurves$Curve", TX0, 5, rfl, by decide, inX0, lw_okI 229 (by decide +kernel) (by decide +kernel), Or.inl rfl⟩
  · exact ⟨RX1, "FlowCurves$Curve", TX1, 4, rfl, by decide, inX1, lw_okI 229 (by decide +kernel) (by decide +kernel), Or.inl rfl⟩
  · exact ⟨RX2, "FlowCurves$Curve", TX2, 4, rfl, by decide, inX2, lw_okI 229 (by decide +kernel) (by decide +kernel), Or.inl rfl⟩
  · exact ⟨RX5, "FlowCurves$Curve", TX5, 4, rfl, by decide, inX5, lw_okI 229 (by decide +kernel) (by decide +kernel), Or.inl rfl⟩
  · exact ⟨RX7, "FlowCurves$Curve", TX7, 4, rfl, by decide, inX7, lw_okI 229 (by decide +kernel) (by decide +kernel), Or.inl rfl⟩
theorem fl_X1_18 : ∀ ci, ci ∈ [0, 1, 2, 4, 6] → aFld RX1 18 ci 2 := by
  intro ci h
  simp only [List.mem_cons, List.not_mem_nil, or_false] at h
  rcases h with rfl | rfl | rfl | rfl | rfl
  · exact ⟨RX0, "FlowCurves$Curve", TX0, 5, rfl, by decide, inX0, lw_okI 230 (by decide +kernel) (by decide +kernel), Or.inl rfl⟩
  · exact ⟨RX1, "FlowCurves$Curve", TX1, 4, rfl, by decide, inX1, lw_okI 230 (by decide +kernel) (by decide +kernel), Or.inl rfl⟩
  · exact ⟨RX2, "FlowCurves$Curve", TX2, 4, rfl, by decide, inX2, lw_okI 230 (by decide +kernel) (by decide +kernel), Or.inl rfl⟩
  · exact ⟨RX5, "FlowCurves$Curve", TX5, 4, rfl, by decide, inX5, lw_okI 230 (by decide +kernel) (by decide +kernel), Or.inl rfl⟩
  · exact ⟨RX7, "FlowCurves$Curve", TX7, 4, rfl, by decide, inX7, lw_okI 230 (by decide +kernel) (by decide +kernel), Or.inl rfl⟩
theorem pu_X1_18 : ∀ ci, ci ∈ [0, 1, 2, 4, 6] → aPut RX1 18 ci 2 .int true := by
  intro ci h
  simp only [List.mem_cons, List.not_mem_nil, or_false] at h
  rcases h with rfl | rfl | rfl | rfl | rfl
  · exact ⟨RX0, "FlowCurves$Curve", TX0, 5, tyX0, rfl, by decide, inX0, lw_okI 230 (by decide +kernel) (by decide +kernel), rfl, tyX0_ok, nmX0, by decide +kernel, rfl, fun _ => rfl⟩
  · exact ⟨RX1, "FlowCurves$Curve", TX1, 4, tyX1, rfl, by decide, inX1, lw_okI 230 (by decide +kernel) (by decide +kernel), rfl, tyX1_ok, nmX1, by decide +kernel, rfl, fun _ => rfl⟩
  · exact ⟨RX2, "FlowCurves$Curve", TX2, 4, tyX2, rfl, by decide, inX2, lw_okI 230 (by decide +kernel) (by decide +kernel), rfl, tyX2_ok, nmX2, by decide +kernel, rfl, fun _ => rfl⟩
  · exact ⟨RX5, "FlowCurves$Curve", TX5, 4, tyX5, rfl, by decide, inX5, lw_okI 230 (by decide +kernel) (by decide +kernel), rfl, tyX5_ok, nmX5, by decide +kernel, rfl, fun _ => rfl⟩
  · exact ⟨RX7, "FlowCurves$Curve", TX7, 4, tyX7, rfl, by decide, inX7, lw_okI 230 (by decide +kernel) (by decide +kernel), rfl, tyX7_ok, nmX7, by decide +kernel, rfl, fun _ => rfl⟩
theorem fl_X5_15 : ∀ ci, ci ∈ [0, 4] → aFld RX5 15 ci 2 := by
  intro ci h
  simp only [List.mem_cons, List.not_mem_nil, or_false] at h
  rcases h with rfl | rfl
  · exact ⟨RX0, "FlowCurves$Ray", TX0, 5, rfl, by decide, inX0, lw_okI 231 (by decide +kernel) (by decide +kernel), Or.inr (lw_okI 232 (by decide +kernel) (by decide +kernel))⟩
  · exact ⟨RX5, "FlowCurves$Ray", TX5, 4, rfl, by decide, inX5, lw_okI 231 (by decide +kernel) (by decide +kernel), Or.inr (lw_okI 232 (by decide +kernel) (by decide +kernel))⟩
theorem fl_X2_21 : aFld RX2 21 2 2 := ⟨RX2, "FlowCurves$Late", TX2, 4, rfl, by decide, inX2, lw_okI 233 (by decide +kernel) (by decide +kernel), Or.inr (lw_okI 234 (by decide +kernel) (by decide +kernel))⟩
theorem fl_X7_21 : aFld RX7 21 6 2 := ⟨RX7, "FlowCurves$Stair", TX7, 4, rfl, by decide, inX7, lw_okI 235 (by decide +kernel) (by decide +kernel), Or.inr (lw_okI 236 (by decide +kernel) (by decide +kernel))⟩
theorem fl_X9_132 : ∀ ci, ci ∈ [0, 1, 2, 4, 6] → aFld RX9 132 ci 2 := by
  intro ci h
  simp only [List.mem_cons, List.not_mem_nil, or_false] at h
  rcases h with rfl | rfl | rfl | rfl | rfl
  · exact ⟨RX0, "FlowCurves$Curve", TX0, 5, rfl, by decide, inX0, lw_okI 237 (by decide +kernel) (by decide +kernel), Or.inl rfl⟩
  · exact ⟨RX1, "FlowCurves$Curve", TX1, 4, rfl, by decide, inX1, lw_okI 237 (by decide +kernel) (by decide +kernel), Or.inl rfl⟩
  · exact ⟨RX2, "FlowCurves$Curve", TX2, 4, rfl, by decide, inX2, lw_okI 237 (by decide +kernel) (by decide +kernel), Or.inl rfl⟩
  · exact ⟨RX5, "FlowCurves$Curve", TX5, 4, rfl, by decide, inX5, lw_okI 237 (by decide +kernel) (by decide +kernel), Or.inl rfl⟩
  · exact ⟨RX7, "FlowCurves$Curve", TX7, 4, rfl, by decide, inX7, lw_okI 237 (by decide +kernel) (by decide +kernel), Or.inl rfl⟩
theorem fl_X1_21 : ∀ ci, ci ∈ [0, 1, 2, 4, 6] → aFld RX1 21 ci 3 := by
  intro ci h
  simp only [List.mem_cons, List.not_mem_nil, or_false] at h
  rcases h with rfl | rfl | rfl | rfl | rfl
  · exact ⟨RX0, "FlowCurves$Curve", TX0, 5, rfl, by decide, inX0, lw_okI 238 (by decide +kernel) (by decide +kernel), Or.inl rfl⟩
  · exact ⟨RX1, "FlowCurves$Curve", TX1, 4, rfl, by decide, inX1, lw_okI 238 (by decide +kernel) (by decide +kernel), Or.inl rfl⟩
  · exact ⟨RX2, "FlowCurves$Curve", TX2, 4, rfl, by decide, inX2, lw_okI 238 (by decide +kernel) (by decide +kernel), Or.inl rfl⟩
  · exact ⟨RX5, "FlowCurves$Curve", TX5, 4, rfl, by decide, inX5, lw_okI 238 (by decide +kernel) (by decide +kernel), Or.inl rfl⟩
  · exact ⟨RX7, "FlowCurves$Curve", TX7, 4, rfl, by decide, inX7, lw_okI 238 (by decide +kernel) (by decide +kernel), Or.inl rfl⟩
theorem pu_X1_21 : ∀ ci, ci ∈ [0, 1, 2, 4, 6] → aPut RX1 21 ci 3 (.array .long) true := by
  intro ci h
  simp only [List.mem_cons, List.not_mem_nil, or_false] at h
  rcases h with rfl | rfl | rfl | rfl | rfl
  · exact ⟨RX0, "FlowCurves$Curve", TX0, 5, tyX0, rfl, by decide, inX0, lw_okI 238 (by decide +kernel) (by decide +kernel), rfl, tyX0_ok, nmX0, by decide +kernel, rfl, fun _ => rfl⟩
  · exact ⟨RX1, "FlowCurves$Curve", TX1, 4, tyX1, rfl, by decide, inX1, lw_okI 238 (by decide +kernel) (by decide +kernel), rfl, tyX1_ok, nmX1, by decide +kernel, rfl, fun _ => rfl⟩
  · exact ⟨RX2, "FlowCurves$Curve", TX2, 4, tyX2, rfl, by decide, inX2, lw_okI 238 (by decide +kernel) (by decide +kernel), rfl, tyX2_ok, nmX2, by decide +kernel, rfl, fun _ => rfl⟩
  · exact ⟨RX5, "FlowCurves$Curve", TX5, 4, tyX5, rfl, by decide, inX5, lw_okI 238 (by decide +kernel) (by decide +kernel), rfl, tyX5_ok, nmX5, by decide +kernel, rfl, fun _ => rfl⟩
  · exact ⟨RX7, "FlowCurves$Curve", TX7, 4, tyX7, rfl, by decide, inX7, lw_okI 238 (by decide +kernel) (by decide +kernel), rfl, tyX7_ok, nmX7, by decide +kernel, rfl, fun _ => rfl⟩
theorem nw_X3_112 : aNew RX3 112 4 [vI 0, vI 0, vI 0, vN] := ⟨RX5, TX5, 4, tyX5, rfl, rfl, inX5, tyX5_ok, lw_okI 250 (by decide +kernel) (by decide +kernel), lw_okI 251 (by decide +kernel) (by decide +kernel), lw_okI 46 (by decide +kernel) (by decide +kernel), fun j hj => by rcases (show j = 0 ∨ j = 1 ∨ j = 2 ∨ j = 3 by omega) with rfl | rfl | rfl | rfl <;> rfl, by intro v hv; simp only [List.mem_cons, List.not_mem_nil, or_false] at hv; rcases hv with rfl | rfl | rfl | rfl <;> first | trivial | exact okI_0 | exact okJ_0⟩
theorem nw_X3_117 : aNew RX3 117 2 [vI 0, vI 0, vI 0, vN] := ⟨RX2, TX2, 4, tyX2, rfl, rfl, inX2, tyX2_ok, lw_okI 258 (by decide +kernel) (by decide +kernel), lw_okI 259 (by decide +kernel) (by decide +kernel), lw_okI 48 (by decide +kernel) (by decide +kernel), fun j hj => by rcases (show j = 0 ∨ j = 1 ∨ j = 2 ∨ j = 3 by omega) with rfl | rfl | rfl | rfl <;> rfl, by intro v hv; simp only [List.mem_cons, List.not_mem_nil, or_false] at hv; rcases hv with rfl | rfl | rfl | rfl <;> first | trivial | exact okI_0 | exact okJ_0⟩
theorem nw_X3_120 : aNew RX3 120 6 [vI 0, vI 0, vI 0, vN] := ⟨RX7, TX7, 4, tyX7, rfl, rfl, inX7, tyX7_ok, lw_okI 269 (by decide +kernel) (by decide +kernel), lw_okI 270 (by decide +kernel) (by decide +kernel), lw_okI 49 (by decide +kernel) (by decide +kernel), fun j hj => by rcases (show j = 0 ∨ j = 1 ∨ j = 2 ∨ j = 3 by omega) with rfl | rfl | rfl | rfl <;> rfl, by intro v hv; simp only [List.mem_cons, List.not_mem_nil, or_false] at hv; rcases hv with rfl | rfl | rfl | rfl <;> first | trivial | exact okI_0 | exact okJ_0⟩
theorem nw_X3_26 : aNew RX3 26 1 [vI 0, vI 0, vI 0, vN] := ⟨RX1, TX1, 4, tyX1, rfl, rfl, inX1, tyX1_ok, lw_okI 280 (by decide +kernel) (by decide +kernel), lw_okI 281 (by decide +kernel) (by decide +kernel), lw_okI 45 (by decide +kernel) (by decide +kernel), fun j hj => by rcases (show j = 0 ∨ j = 1 ∨ j = 2 ∨ j = 3 by omega) with rfl | rfl | rfl | rfl <;> rfl, by intro v hv; simp only [List.mem_cons, List.not_mem_nil, or_false] at hv; rcases hv with rfl | rfl | rfl | rfl <;> first | trivial | exact okI_0 | exact okJ_0⟩
theorem kc_X9_207 : Cond.constantLong RX9 207 (Int64.ofInt (-1)) ∈ lw_ok := lw_okI 405 (by decide +kernel) (by decide +kernel)
theorem kc_X4_40 : Cond.constant RX4 40 (Int32.ofInt (1000000000)) ∈ lw_ok := lw_okI 524 (by decide +kernel) (by decide +kernel)
theorem kc_X6_33 : Cond.constantLong RX6 33 (Int64.ofInt (1000000000)) ∈ lw_ok := lw_okI 550 (by decide +kernel) (by decide +kernel)
theorem cl_L_10 : Cond.classLink RL 10 RX10 ∈ lw_ok := lw_okI 640 (by decide +kernel) (by decide +kernel)
theorem fl_X10_47 : aFld RX10 47 9 0 := ⟨RX10, "FlowCurvesModel", TX10, 15, rfl, by decide, inX10, lw_okI 646 (by decide +kernel) (by decide +kernel), Or.inl rfl⟩
theorem pu_X10_47 : aPut RX10 47 9 0 .int false := ⟨RX10, "FlowCurvesModel", TX10, 15, tyX10, rfl, by decide, inX10, lw_okI 646 (by decide +kernel) (by decide +kernel), rfl, tyX10_ok, nmX10, by decide +kernel, rfl, fun h => absurd h (by decide)⟩
theorem fl_X10_7 : aFld RX10 7 9 1 := ⟨RX10, "FlowCurvesModel", TX10, 15, rfl, by decide, inX10, lw_okI 647 (by decide +kernel) (by decide +kernel), Or.inl rfl⟩
theorem pu_X10_7 : aPut RX10 7 9 1 (.array .int) true := ⟨RX10, "FlowCurvesModel", TX10, 15, tyX10, rfl, by decide, inX10, lw_okI 647 (by decide +kernel) (by decide +kernel), rfl, tyX10_ok, nmX10, by decide +kernel, rfl, fun _ => rfl⟩
theorem fl_X10_13 : aFld RX10 13 9 2 := ⟨RX10, "FlowCurvesModel", TX10, 15, rfl, by decide, inX10, lw_okI 648 (by decide +kernel) (by decide +kernel), Or.inl rfl⟩
theorem pu_X10_13 : aPut RX10 13 9 2 (.array .int) true := ⟨RX10, "FlowCurvesModel", TX10, 15, tyX10, rfl, by decide, inX10, lw_okI 648 (by decide +kernel) (by decide +kernel), rfl, tyX10_ok, nmX10, by decide +kernel, rfl, fun _ => rfl⟩
theorem fl_X10_16 : aFld RX10 16 9 3 := ⟨RX10, "FlowCurvesModel", TX10, 15, rfl, by decide, inX10, lw_okI 649 (by decide +kernel) (by decide +kernel), Or.inl rfl⟩
theorem pu_X10_16 : aPut RX10 16 9 3 (.array .long) true := ⟨RX10, "FlowCurvesModel", TX10, 15, tyX10, rfl, by decide, inX10, lw_okI 649 (by decide +kernel) (by decide +kernel), rfl, tyX10_ok, nmX10, by decide +kernel, rfl, fun _ => rfl⟩
theorem fl_X10_20 : aFld RX10 20 9 4 := ⟨RX10, "FlowCurvesModel", TX10, 15, rfl, by decide, inX10, lw_okI 650 (by decide +kernel) (by decide +kernel), Or.inl rfl⟩
theorem pu_X10_20 : aPut RX10 20 9 4 (.array .int) true := ⟨RX10, "FlowCurvesModel", TX10, 15, tyX10, rfl, by decide, inX10, lw_okI 650 (by decide +kernel) (by decide +kernel), rfl, tyX10_ok, nmX10, by decide +kernel, rfl, fun _ => rfl⟩
theorem fl_X10_23 : aFld RX10 23 9 5 := ⟨RX10, "FlowCurvesModel", TX10, 15, rfl, by decide, inX10, lw_okI 651 (by decide +kernel) (by decide +kernel), Or.inl rfl⟩
theorem pu_X10_23 : aPut RX10 23 9 5 (.array .long) true := ⟨RX10, "FlowCurvesModel", TX10, 15, tyX10, rfl, by decide, inX10, lw_okI 651 (by decide +kernel) (by decide +kernel), rfl, tyX10_ok, nmX10, by decide +kernel, rfl, fun _ => rfl⟩
theorem fl_X10_69 : aFld RX10 69 9 6 := ⟨RX10, "FlowCurvesModel", TX10, 15, rfl, by decide, inX10, lw_okI 652 (by decide +kernel) (by decide +kernel), Or.inl rfl⟩
theorem pu_X10_69 : aPut RX10 69 9 6 .boolean false := ⟨RX10, "FlowCurvesModel", TX10, 15, tyX10, rfl, by decide, inX10, lw_okI 652 (by decide +kernel) (by decide +kernel), rfl, tyX10_ok, nmX10, by decide +kernel, rfl, fun h => absurd h (by decide)⟩
theorem fl_X10_26 : aFld RX10 26 9 7 := ⟨RX10, "FlowCurvesModel", TX10, 15, rfl, by decide, inX10, lw_okI 653 (by decide +kernel) (by decide +kernel), Or.inl rfl⟩
theorem pu_X10_26 : aPut RX10 26 9 7 (.array .long) true := ⟨RX10, "FlowCurvesModel", TX10, 15, tyX10, rfl, by decide, inX10, lw_okI 653 (by decide +kernel) (by decide +kernel), rfl, tyX10_ok, nmX10, by decide +kernel, rfl, fun _ => rfl⟩
theorem fl_X10_76 : aFld RX10 76 9 8 := ⟨RX10, "FlowCurvesModel", TX10, 15, rfl, by decide, inX10, lw_okI 654 (by decide +kernel) (by decide +kernel), Or.inl rfl⟩
theorem pu_X10_76 : aPut RX10 76 9 8 .int false := ⟨RX10, "FlowCurvesModel", TX10, 15, tyX10, rfl, by decide, inX10, lw_okI 654 (by decide +kernel) (by decide +kernel), rfl, tyX10_ok, nmX10, by decide +kernel, rfl, fun h => absurd h (by decide)⟩
theorem fl_X10_29 : aFld RX10 29 9 9 := ⟨RX10, "FlowCurvesModel", TX10, 15, rfl, by decide, inX10, lw_okI 655 (by decide +kernel) (by decide +kernel), Or.inl rfl⟩
theorem pu_X10_29 : aPut RX10 29 9 9 (.array .long) true := ⟨RX10, "FlowCurvesModel", TX10, 15, tyX10, rfl, by decide, inX10, lw_okI 655 (by decide +kernel) (by decide +kernel), rfl, tyX10_ok, nmX10, by decide +kernel, rfl, fun _ => rfl⟩
theorem fl_X10_147 : aFld RX10 147 9 10 := ⟨RX10, "FlowCurvesModel", TX10, 15, rfl, by decide, inX10, lw_okI 656 (by decide +kernel) (by decide +kernel), Or.inl rfl⟩
theorem pu_X10_147 : aPut RX10 147 9 10 .int false := ⟨RX10, "FlowCurvesModel", TX10, 15, tyX10, rfl, by decide, inX10, lw_okI 656 (by decide +kernel) (by decide +kernel), rfl, tyX10_ok, nmX10, by decide +kernel, rfl, fun h => absurd h (by decide)⟩
theorem fl_X10_32 : aFld RX10 32 9 11 := ⟨RX10, "FlowCurvesModel", TX10, 15, rfl, by decide, inX10, lw_okI 657 (by decide +kernel) (by decide +kernel), Or.inl rfl⟩
theorem pu_X10_32 : aPut RX10 32 9 11 .int false := ⟨RX10, "FlowCurvesModel", TX10, 15, tyX10, rfl, by decide, inX10, lw_okI 657 (by decide +kernel) (by decide +kernel), rfl, tyX10_ok, nmX10, by decide +kernel, rfl, fun h => absurd h (by decide)⟩
theorem fl_X10_36 : aFld RX10 36 9 12 := ⟨RX10, "FlowCurvesModel", TX10, 15, rfl, by decide, inX10, lw_okI 658 (by decide +kernel) (by decide +kernel), Or.inl rfl⟩
theorem pu_X10_36 : aPut RX10 36 9 12 (.array .int) true := ⟨RX10, "FlowCurvesModel", TX10, 15, tyX10, rfl, by decide, inX10, lw_okI 658 (by decide +kernel) (by decide +kernel), rfl, tyX10_ok, nmX10, by decide +kernel, rfl, fun _ => rfl⟩
theorem fl_X10_42 : aFld RX10 42 9 13 := ⟨RX10, "FlowCurvesModel", TX10, 15, rfl, by decide, inX10, lw_okI 659 (by decide +kernel) (by decide +kernel), Or.inl rfl⟩
theorem pu_X10_42 : aPut RX10 42 9 13 .int false := ⟨RX10, "FlowCurvesModel", TX10, 15, tyX10, rfl, by decide, inX10, lw_okI 659 (by decide +kernel) (by decide +kernel), rfl, tyX10_ok, nmX10, by decide +kernel, rfl, fun h => absurd h (by decide)⟩
theorem fl_X10_39 : aFld RX10 39 9 14 := ⟨RX10, "FlowCurvesModel", TX10, 15, rfl, by decide, inX10, lw_okI 660 (by decide +kernel) (by decide +kernel), Or.inl rfl⟩
theorem pu_X10_39 : aPut RX10 39 9 14 (.array .long) true := ⟨RX10, "FlowCurvesModel", TX10, 15, tyX10, rfl, by decide, inX10, lw_okI 660 (by decide +kernel) (by decide +kernel), rfl, tyX10_ok, nmX10, by decide +kernel, rfl, fun _ => rfl⟩
theorem kc_X10_64 : Cond.constantLong RX10 64 (Int64.ofInt (1000000000000)) ∈ lw_ok := lw_okI 696 (by decide +kernel) (by decide +kernel)
theorem kc_X10_79 : Cond.constantLong RX10 79 (Int64.ofInt (300)) ∈ lw_ok := lw_okI 712 (by decide +kernel) (by decide +kernel)
theorem kc_X10_81 : Cond.constantLong RX10 81 (Int64.ofInt (1000000)) ∈ lw_ok := lw_okI 713 (by decide +kernel) (by decide +kernel)
theorem kc_X10_83 : Cond.constant RX10 83 (Int32.ofInt (1103515245)) ∈ lw_ok := lw_okI 714 (by decide +kernel) (by decide +kernel)
theorem kc_X10_84 : Cond.constant RX10 84 (Int32.ofInt (2147483647)) ∈ lw_ok := lw_okI 715 (by decide +kernel) (by decide +kernel)
theorem kc_X10_85 : Cond.constantLong RX10 85 (Int64.ofInt (60)) ∈ lw_ok := lw_okI 724 (by decide +kernel) (by decide +kernel)
theorem kc_X10_62 : Cond.constantLong RX10 62 (Int64.ofInt (1000000000)) ∈ lw_ok := lw_okI 725 (by decide +kernel) (by decide +kernel)
theorem kc_X10_107 : Cond.constantLong RX10 107 (Int64.ofInt (5)) ∈ lw_ok := lw_okI 746 (by decide +kernel) (by decide +kernel)
theorem kc_X10_124 : Cond.constantLong RX10 124 (Int64.ofInt (1000)) ∈ lw_ok := lw_okI 782 (by decide +kernel) (by decide +kernel)
theorem kc_X10_126 : Cond.constantLong RX10 126 (Int64.ofInt (200)) ∈ lw_ok := lw_okI 787 (by decide +kernel) (by decide +kernel)
theorem kc_X10_45 : Cond.constantLong RX10 45 (Int64.ofInt (-1)) ∈ lw_ok := lw_okI 800 (by decide +kernel) (by decide +kernel)
theorem kc_X10_136 : Cond.constantLong RX10 136 (Int64.ofInt (4)) ∈ lw_ok := lw_okI 809 (by decide +kernel) (by decide +kernel)
theorem kc_X10_153 : Cond.constantLong RX10 153 (Int64.ofInt (2)) ∈ lw_ok := lw_okI 866 (by decide +kernel) (by decide +kernel)
theorem kc_X10_155 : Cond.constantLong RX10 155 (Int64.ofInt (600)) ∈ lw_ok := lw_okI 867 (by decide +kernel) (by decide +kernel)
theorem kc_L_13 : Cond.constantLong RL 13 (Int64.ofInt (4294967295)) ∈ lw_ok := lw_okI 912 (by decide +kernel) (by decide +kernel)
theorem ki_L_9 : aLkI RL 9 mX9_init 0 := ⟨cal_X9_init, rfl, lw_okI 53 (by decide +kernel) (by decide +kernel), lw_okI 54 (by decide +kernel) (by decide +kernel), rfl, by decide +kernel⟩
theorem ko_X9_1 : Cond.methodLink RX9 1 Lib.objectInit ∈ lw_ok := lw_okI 56 (by decide +kernel) (by decide +kernel)
theorem kn_X9_32 : aLkIN RX9 32 mX6_init 0 := ⟨cal_X6_init, rfl, ⟨"FlowCurves", by decide +kernel⟩, lw_okI 64 (by decide +kernel) (by decide +kernel), rfl, by decide +kernel⟩
theorem ko_X6_3 : Cond.methodLink RX6 3 Lib.objectInit ∈ lw_ok := lw_okI 66 (by decide +kernel) (by decide +kernel)
theorem kn_X9_42 : aLkIN RX9 42 mX8_init 0 := ⟨cal_X8_init, rfl, ⟨"FlowCurves", by decide +kernel⟩, lw_okI 79 (by decide +kernel) (by decide +kernel), rfl, by decide +kernel⟩
theorem ko_X8_3 : Cond.methodLink RX8 3 Lib.objectInit ∈ lw_ok := lw_okI 81 (by decide +kernel) (by decide +kernel)
theorem kn_X9_49 : aLkIN RX9 49 mX3_init 0 := ⟨cal_X3_init, rfl, ⟨"FlowCurves", by decide +kernel⟩, lw_okI 90 (by decide +kernel) (by decide +kernel), rfl, by decide +kernel⟩
theorem ko_X3_3 : Cond.methodLink RX3 3 Lib.objectInit ∈ lw_ok := lw_okI 92 (by decide +kernel) (by decide +kernel)
theorem kv_L_15 : aLkV RL 15 8 mX9_put 1 := ⟨cal_X9_put, RX9, TX9, 10, rfl, lw_okI 134 (by decide +kernel) (by decide +kernel), lw_okI 135 (by decide +kernel) (by decide +kernel), lw_okI 136 (by decide +kernel) (by decide +kernel), by decide +kernel⟩
theorem kv_X9_59 : aLkV RX9 59 8 mX9_refused 1 := ⟨cal_X9_refused, RX9, TX9, 10, rfl, lw_okI 139 (by decide +kernel) (by decide +kernel), lw_okI 141 (by decide +kernel) (by decide +kernel), lw_okI 0 (by decide +kernel) (by decide +kernel), by decide +kernel⟩
theorem kv_X9_63 : aLkV RX9 63 8 mX9_granted 1 := ⟨cal_X9_granted, RX9, TX9, 10, rfl, lw_okI 143 (by decide +kernel) (by decide +kernel), lw_okI 145 (by decide +kernel) (by decide +kernel), lw_okI 1 (by decide +kernel) (by decide +kernel), by decide +kernel⟩
theorem kv_L_20 : aLkV RL 20 8 mX9_draw 3 := ⟨cal_X9_draw, RX9, TX9, 10, rfl, lw_okI 147 (by decide +kernel) (by decide +kernel), lw_okI 148 (by decide +kernel) (by decide +kernel), lw_okI 149 (by decide +kernel) (by decide +kernel), by decide +kernel⟩
theorem kv_L_25 : aLkV RL 25 8 mX9_drop 0 := ⟨cal_X9_drop, RX9, TX9, 10, rfl, lw_okI 155 (by decide +kernel) (by decide +kernel), lw_okI 156 (by decide +kernel) (by decide +kernel), lw_okI 157 (by decide +kernel) (by decide +kernel), by decide +kernel⟩
theorem kv_L_30 : aLkV RL 30 8 mX9_curve 2 := ⟨cal_X9_curve, RX9, TX9, 10, rfl, lw_okI 159 (by decide +kernel) (by decide +kernel), lw_okI 160 (by decide +kernel) (by decide +kernel), lw_okI 161 (by decide +kernel) (by decide +kernel), by decide +kernel⟩
theorem kv_X9_74 : aLkV RX9 74 8 mX9_rowComesRound 2 := ⟨cal_X9_rowComesRound, RX9, TX9, 10, rfl, lw_okI 164 (by decide +kernel) (by decide +kernel), lw_okI 166 (by decide +kernel) (by decide +kernel), lw_okI 2 (by decide +kernel) (by decide +kernel), by decide +kernel⟩
theorem kv_X9_78 : aLkV RX9 78 3 mX3_fromRow 4 := ⟨cal_X3_fromRow, RX3, TX3, 3, rfl, lw_okI 168 (by decide +kernel) (by decide +kernel), lw_okI 169 (by decide +kernel) (by decide +kernel), lw_okI 170 (by decide +kernel) (by decide +kernel), by decide +kernel⟩
theorem kv_X3_21 : aLkV RX3 21 3 mX3_settled 2 := ⟨cal_X3_settled, RX3, TX3, 3, rfl, lw_okI 172 (by decide +kernel) (by decide +kernel), lw_okI 174 (by decide +kernel) (by decide +kernel), lw_okI 3 (by decide +kernel) (by decide +kernel), by decide +kernel⟩
theorem kv_X3_86 : aLkV RX3 86 3 mX3_leastStep 2 := ⟨cal_X3_leastStep, RX3, TX3, 3, rfl, lw_okI 176 (by decide +kernel) (by decide +kernel), lw_okI 178 (by decide +kernel) (by decide +kernel), lw_okI 4 (by decide +kernel) (by decide +kernel), by decide +kernel⟩
theorem kv_X3_103 : aLkV RX3 103 3 mX3_alsoComesRoundBy 3 := ⟨cal_X3_alsoComesRoundBy, RX3, TX3, 3, rfl, lw_okI 180 (by decide +kernel) (by decide +kernel), lw_okI 182 (by decide +kernel) (by decide +kernel), lw_okI 5 (by decide +kernel) (by decide +kernel), by decide +kernel⟩
theorem ks_X3_93 : aLkS RX3 93 mJ7_copyOf_c38d5 2 := ⟨cal_J7_copyOf_c38d5, lw_okI 186 (by decide +kernel) (by decide +kernel), lw_okI 187 (by decide +kernel) (by decide +kernel), by decide +kernel⟩
theorem km_J7_304 : Cond.methodLink RJ7 304 ⟨"java/lang/Math", "min", "(II)I"⟩ ∈ lw_ok := lw_okI 196 (by decide +kernel) (by decide +kernel)
theorem km_J7_150 : Cond.methodLink RJ7 150 ⟨"java/lang/System", "arraycopy", "(Ljava/lang/Object;ILjava/lang/Object;II)V"⟩ ∈ lw_ok := lw_okI 199 (by decide +kernel) (by decide +kernel)
theorem ks_X3_99 : aLkS RX3 99 mX3_ofItsKind 4 := ⟨cal_X3_ofItsKind, lw_okI 202 (by decide +kernel) (by decide +kernel), lw_okI 203 (by decide +kernel) (by decide +kernel), by decide +kernel⟩
theorem ki_X3_109 : aLkI RX3 109 mX0_init 5 := ⟨cal_X0_init, rfl, lw_okI 207 (by decide +kernel) (by decide +kernel), lw_okI 208 (by decide +kernel) (by decide +kernel), rfl, by decide +kernel⟩
theorem ki_X0_3 : aLkI RX0 3 mX5_init 4 := ⟨cal_X5_init, rfl, lw_okI 210 (by decide +kernel) (by decide +kernel), lw_okI 211 (by decide +kernel) (by decide +kernel), rfl, by decide +kernel⟩
theorem ki_X5_3 : aLkI RX5 3 mX1_init 4 := ⟨cal_X1_init, rfl, lw_okI 213 (by decide +kernel) (by decide +kernel), lw_okI 214 (by decide +kernel) (by decide +kernel), rfl, by decide +kernel⟩
theorem ko_X1_3 : Cond.methodLink RX1 3 Lib.objectInit ∈ lw_ok := lw_okI 216 (by decide +kernel) (by decide +kernel)
theorem ki_X3_114 : aLkI RX3 114 mX5_init 4 := ⟨cal_X5_init, rfl, lw_okI 252 (by decide +kernel) (by decide +kernel), lw_okI 211 (by decide +kernel) (by decide +kernel), rfl, by decide +kernel⟩
theorem ki_X3_119 : aLkI RX3 119 mX2_init 4 := ⟨cal_X2_init, rfl, lw_okI 260 (by decide +kernel) (by decide +kernel), lw_okI 261 (by decide +kernel) (by decide +kernel), rfl, by decide +kernel⟩
theorem ki_X2_3 : aLkI RX2 3 mX1_init 4 := ⟨cal_X1_init, rfl, lw_okI 263 (by decide +kernel) (by decide +kernel), lw_okI 214 (by decide +kernel) (by decide +kernel), rfl, by decide +kernel⟩
theorem ki_X3_122 : aLkI RX3 122 mX7_init 4 := ⟨cal_X7_init, rfl, lw_okI 271 (by decide +kernel) (by decide +kernel), lw_okI 272 (by decide +kernel) (by decide +kernel), rfl, by decide +kernel⟩
theorem ki_X7_3 : aLkI RX7 3 mX1_init 4 := ⟨cal_X1_init, rfl, lw_okI 274 (by decide +kernel) (by decide +kernel), lw_okI 214 (by decide +kernel) (by decide +kernel), rfl, by decide +kernel⟩
theorem ki_X3_123 : aLkI RX3 123 mX1_init 4 := ⟨cal_X1_init, rfl, lw_okI 282 (by decide +kernel) (by decide +kernel), lw_okI 214 (by decide +kernel) (by decide +kernel), rfl, by decide +kernel⟩
theorem kv_X9_82 : aLkV RX9 82 8 mX9_kept 1 := ⟨cal_X9_kept, RX9, TX9, 10, rfl, lw_okI 288 (by decide +kernel) (by decide +kernel), lw_okI 290 (by decide +kernel) (by decide +kernel), lw_okI 6 (by decide +kernel) (by decide +kernel), by decide +kernel⟩
theorem kv_L_35 : aLkV RL 35 8 mX9_ray 1 := ⟨cal_X9_ray, RX9, TX9, 10, rfl, lw_okI 292 (by decide +kernel) (by decide +kernel), lw_okI 293 (by decide +kernel) (by decide +kernel), lw_okI 294 (by decide +kernel) (by decide +kernel), by decide +kernel⟩
theorem kv_X9_86 : aLkV RX9 86 3 mX3_straight 1 := ⟨cal_X3_straight, RX3, TX3, 3, rfl, lw_okI 296 (by decide +kernel) (by decide +kernel), lw_okI 297 (by decide +kernel) (by decide +kernel), lw_okI 298 (by decide +kernel) (by decide +kernel), by decide +kernel⟩
theorem kv_L_40 : aLkV RL 40 8 mX9_of 3 := ⟨cal_X9_of, RX9, TX9, 10, rfl, lw_okI 300 (by decide +kernel) (by decide +kernel), lw_okI 301 (by decide +kernel) (by decide +kernel), lw_okI 302 (by decide +kernel) (by decide +kernel), by decide +kernel⟩
theorem kv_X9_90 : aLkV RX9 90 8 mX9_curveNumbered 1 := ⟨cal_X9_curveNumbered, RX9, TX9, 10, rfl, lw_okI 304 (by decide +kernel) (by decide +kernel), lw_okI 306 (by decide +kernel) (by decide +kernel), lw_okI 7 (by decide +kernel) (by decide +kernel), by decide +kernel⟩
theorem ks_X9_93 : aLkS RX9 93 mX4_commonStep 2 := ⟨cal_X4_commonStep, lw_okI 308 (by decide +kernel) (by decide +kernel), lw_okI 309 (by decide +kernel) (by decide +kernel), by decide +kernel⟩
theorem ks_X9_99 : aLkS RX9 99 mX4_outruns 3 := ⟨cal_X4_outruns, lw_okI 311 (by decide +kernel) (by decide +kernel), lw_okI 312 (by decide +kernel) (by decide +kernel), by decide +kernel⟩
theorem ku_X4_15 : ∀ ci, ci ∈ [0, 1, 2, 4, 6] → aLkU RX4 15 ci yX1_gainIn mX1_gainIn 1 := by
  intro ci h
  simp only [List.mem_cons, List.not_mem_nil, or_false] at h
  rcases h with rfl | rfl | rfl | rfl | rfl
  · exact ⟨cal_X1_gainIn, RX0, "FlowCurves$Curve", TX0, 5, mX1_gainIn.2.1, mX1_gainIn.2.2.1, mX1_gainIn.2.2.2, rfl, lw_okI 314 (by decide +kernel) (by decide +kernel), lw_okI 317 (by decide +kernel) (by decide +kernel), lw_okI 315 (by decide +kernel) (by decide +kernel), cal_X1_gainIn.1, lw_okI 318 (by decide +kernel) (by decide +kernel), lw_okI 315 (by decide +kernel) (by decide +kernel), ⟨by decide +kernel, by decide +kernel⟩, by decide +kernel⟩
  · exact ⟨cal_X1_gainIn, RX1, "FlowCurves$Curve", TX1, 4, mX1_gainIn.2.1, mX1_gainIn.2.2.1, mX1_gainIn.2.2.2, rfl, lw_okI 314 (by decide +kernel) (by decide +kernel), lw_okI 317 (by decide +kernel) (by decide +kernel), lw_okI 315 (by decide +kernel) (by decide +kernel), cal_X1_gainIn.1, lw_okI 316 (by decide +kernel) (by decide +kernel), lw_okI 315 (by decide +kernel) (by decide +kernel), ⟨by decide +kernel, by decide +kernel⟩, by decide +kernel⟩
  · exact ⟨cal_X1_gainIn, RX2, "FlowCurves$Curve", TX2, 4, mX1_gainIn.2.1, mX1_gainIn.2.2.1, mX1_gainIn.2.2.2, rfl, lw_okI 314 (by decide +kernel) (by decide +kernel), lw_okI 317 (by decide +kernel) (by decide +kernel), lw_okI 315 (by decide +kernel) (by decide +kernel), cal_X1_gainIn.1, lw_okI 319 (by decide +kernel) (by decide +kernel), lw_okI 315 (by decide +kernel) (by decide +kernel), ⟨by decide +kernel, by decide +kernel⟩, by decide +kernel⟩
  · exact ⟨cal_X1_gainIn, RX5, "FlowCurves$Curve", TX5, 4, mX1_gainIn.2.1, mX1_gainIn.2.2.1, mX1_gainIn.2.2.2, rfl, lw_okI 314 (by decide +kernel) (by decide +kernel), lw_okI 317 (by decide +kernel) (by decide +kernel), lw_okI 315 (by decide +kernel) (by decide +kernel), cal_X1_gainIn.1, lw_okI 320 (by decide +kernel) (by decide +kernel), lw_okI 315 (by decide +kernel) (by decide +kernel), ⟨by decide +kernel, by decide +kernel⟩, by decide +kernel⟩
  · exact ⟨cal_X1_gainIn, RX7, "FlowCurves$Curve", TX7, 4, mX1_gainIn.2.1, mX1_gainIn.2.2.1, mX1_gainIn.2.2.2, rfl, lw_okI 314 (by decide +kernel) (by decide +kernel), lw_okI 317 (by decide +kernel) (by decide +kernel), lw_okI 315 (by decide +kernel) (by decide +kernel), cal_X1_gainIn.1, lw_okI 321 (by decide +kernel) (by decide +kernel), lw_okI 315 (by decide +kernel) (by decide +kernel), ⟨by decide +kernel, by decide +kernel⟩, by decide +kernel⟩
theorem kv_X9_103 : aLkV RX9 103 3 mX3_fromBoth 4 := ⟨cal_X3_fromBoth, RX3, TX3, 3, rfl, lw_okI 323 (by decide +kernel) (by decide +kernel), lw_okI 324 (by decide +kernel) (by decide +kernel), lw_okI 325 (by decide +kernel) (by decide +kernel), by decide +kernel⟩
theorem km_X3_44 : Cond.methodLink RX3 44 ⟨"java/lang/Math", "max", "(II)I"⟩ ∈ lw_ok := lw_okI 327 (by decide +kernel) (by decide +kernel)
theorem ks_X3_47 : aLkS RX3 47 mX3_spread 2 := ⟨cal_X3_spread, lw_okI 330 (by decide +kernel) (by decide +kernel), lw_okI 331 (by decide +kernel) (by decide +kernel), by decide +kernel⟩
theorem ku_X3_40 : ∀ ci, ci ∈ [0, 1, 2, 4, 6] → aLkU RX3 40 ci yX1_amount mX1_amount 1 := by
  intro ci h
  simp only [List.mem_cons, List.not_mem_nil, or_false] at h
  rcases h with rfl | rfl | rfl | rfl | rfl
  · exact ⟨cal_X1_amount, RX0, "FlowCurves$Curve", TX0, 5, mX1_amount.2.1, mX1_amount.2.2.1, mX1_amount.2.2.2, rfl, lw_okI 333 (by decide +kernel) (by decide +kernel), lw_okI 336 (by decide +kernel) (by decide +kernel), lw_okI 334 (by decide +kernel) (by decide +kernel), cal_X1_amount.1, lw_okI 337 (by decide +kernel) (by decide +kernel), lw_okI 334 (by decide +kernel) (by decide +kernel), ⟨by decide +kernel, by decide +kernel⟩, by decide +kernel⟩
  · exact ⟨cal_X1_amount, RX1, "FlowCurves$Curve", TX1, 4, mX1_amount.2.1, mX1_amount.2.2.1, mX1_amount.2.2.2, rfl, lw_okI 333 (by decide +kernel) (by decide +kernel), lw_okI 336 (by decide +kernel) (by decide +kernel), lw_okI 334 (by decide +kernel) (by decide +kernel), cal_X1_amount.1, lw_okI 335 (by decide +kernel) (by decide +kernel), lw_okI 334 (by decide +kernel) (by decide +kernel), ⟨by decide +kernel, by decide +kernel⟩, by decide +kernel⟩
  · exact ⟨cal_X1_amount, RX2, "FlowCurves$Curve", TX2, 4, mX1_amount.2.1, mX1_amount.2.2.1, mX1_amount.2.2.2, rfl, lw_okI 333 (by decide +kernel) (by decide +kernel), lw_okI 336 (by decide +kernel) (by decide +kernel), lw_okI 334 (by decide +kernel) (by decide +kernel), cal_X1_amount.1, lw_okI 338 (by decide +kernel) (by decide +kernel), lw_okI 334 (by decide +kernel) (by decide +kernel), ⟨by decide +kernel, by decide +kernel⟩, by decide +kernel⟩
  · exact ⟨cal_X1_amount, RX5, "FlowCurves$Curve", TX5, 4, mX1_amount.2.1, mX1_amount.2.2.1, mX1_amount.2.2.2, rfl, lw_okI 333 (by decide +kernel) (by decide +kernel), lw_okI 336 (by decide +kernel) (by decide +kernel), lw_okI 334 (by decide +kernel) (by decide +kernel), cal_X1_amount.1, lw_okI 339 (by decide +kernel) (by decide +kernel), lw_okI 334 (by decide +kernel) (by decide +kernel), ⟨by decide +kernel, by decide +kernel⟩, by decide +kernel⟩
  · exact ⟨cal_X1_amount, RX7, "FlowCurves$Curve", TX7, 4, mX1_amount.2.1, mX1_amount.2.2.1, mX1_amount.2.2.2, rfl, lw_okI 333 (by decide +kernel) (by decide +kernel), lw_okI 336 (by decide +kernel) (by decide +kernel), lw_okI 334 (by decide +kernel) (by decide +kernel), cal_X1_amount.1, lw_okI 340 (by decide +kernel) (by decide +kernel), lw_okI 334 (by decide +kernel) (by decide +kernel), ⟨by decide +kernel, by decide +kernel⟩, by decide +kernel⟩
theorem kv_X3_51 : aLkV RX3 51 3 mX3_laySideBySide 2 := ⟨cal_X3_laySideBySide, RX3, TX3, 3, rfl, lw_okI 342 (by decide +kernel) (by decide +kernel), lw_okI 344 (by decide +kernel) (by decide +kernel), lw_okI 8 (by decide +kernel) (by decide +kernel), by decide +kernel⟩
theorem km_X3_80 : Cond.methodLink RX3 80 ⟨"java/lang/Math", "min", "(JJ)J"⟩ ∈ lw_ok := lw_okI 346 (by decide +kernel) (by decide +kernel)
theorem km_X3_77 : Cond.methodLink RX3 77 ⟨"java/lang/Math", "max", "(JJ)J"⟩ ∈ lw_ok := lw_okI 349 (by decide +kernel) (by decide +kernel)
theorem kv_X3_55 : aLkV RX3 55 3 mX3_layRest 1 := ⟨cal_X3_layRest, RX3, TX3, 3, rfl, lw_okI 352 (by decide +kernel) (by decide +kernel), lw_okI 354 (by decide +kernel) (by decide +kernel), lw_okI 9 (by decide +kernel) (by decide +kernel), by decide +kernel⟩
theorem kv_X3_59 : aLkV RX3 59 3 mX3_layBoth 3 := ⟨cal_X3_layBoth, RX3, TX3, 3, rfl, lw_okI 356 (by decide +kernel) (by decide +kernel), lw_okI 358 (by decide +kernel) (by decide +kernel), lw_okI 10 (by decide +kernel) (by decide +kernel), by decide +kernel⟩
theorem kv_X3_82 : aLkV RX3 82 3 mX3_leastTogether 3 := ⟨cal_X3_leastTogether, RX3, TX3, 3, rfl, lw_okI 360 (by decide +kernel) (by decide +kernel), lw_okI 362 (by decide +kernel) (by decide +kernel), lw_okI 11 (by decide +kernel) (by decide +kernel), by decide +kernel⟩
theorem km_X3_34 : Cond.methodLink RX3 34 ⟨"java/lang/Math", "min", "(II)I"⟩ ∈ lw_ok := lw_okI 364 (by decide +kernel) (by decide +kernel)
theorem kv_X3_63 : aLkV RX3 63 3 mX3_layOff 2 := ⟨cal_X3_layOff, RX3, TX3, 3, rfl, lw_okI 365 (by decide +kernel) (by decide +kernel), lw_okI 367 (by decide +kernel) (by decide +kernel), lw_okI 12 (by decide +kernel) (by decide +kernel), by decide +kernel⟩
theorem ku_X3_66 : ∀ ci, ci ∈ [0, 1, 2, 4, 6] → aLkU RX3 66 ci yX1_gainIn mX1_gainIn 1 := by
  intro ci h
  simp only [List.mem_cons, List.not_mem_nil, or_false] at h
  rcases h with rfl | rfl | rfl | rfl | rfl
  · exact ⟨cal_X1_gainIn, RX0, "FlowCurves$Curve", TX0, 5, mX1_gainIn.2.1, mX1_gainIn.2.2.1, mX1_gainIn.2.2.2, rfl, lw_okI 369 (by decide +kernel) (by decide +kernel), lw_okI 317 (by decide +kernel) (by decide +kernel), lw_okI 315 (by decide +kernel) (by decide +kernel), cal_X1_gainIn.1, lw_okI 318 (by decide +kernel) (by decide +kernel), lw_okI 315 (by decide +kernel) (by decide +kernel), ⟨by decide +kernel, by decide +kernel⟩, by decide +kernel⟩
  · exact ⟨cal_X1_gainIn, RX1, "FlowCurves$Curve", TX1, 4, mX1_gainIn.2.1, mX1_gainIn.2.2.1, mX1_gainIn.2.2.2, rfl, lw_okI 369 (by decide +kernel) (by decide +kernel), lw_okI 317 (by decide +kernel) (by decide +kernel), lw_okI 315 (by decide +kernel) (by decide +kernel), cal_X1_gainIn.1, lw_okI 316 (by decide +kernel) (by decide +kernel), lw_okI 315 (by decide +kernel) (by decide +kernel), ⟨by decide +kernel, by decide +kernel⟩, by decide +kernel⟩
  · exact ⟨cal_X1_gainIn, RX2, "FlowCurves$Curve", TX2, 4, mX1_gainIn.2.1, mX1_gainIn.2.2.1, mX1_gainIn.2.2.2, rfl, lw_okI 369 (by decide +kernel) (by decide +kernel), lw_okI 317 (by decide +kernel) (by decide +kernel), lw_okI 315 (by decide +kernel) (by decide +kernel), cal_X1_gainIn.1, lw_okI 319 (by decide +kernel) (by decide +kernel), lw_okI 315 (by decide +kernel) (by decide +kernel), ⟨by decide +kernel, by decide +kernel⟩, by decide +kernel⟩
  · exact ⟨cal_X1_gainIn, RX5, "FlowCurves$Curve", TX5, 4, mX1_gainIn.2.1, mX1_gainIn.2.2.1, mX1_gainIn.2.2.2, rfl, lw_okI 369 (by decide +kernel) (by decide +kernel), lw_okI 317 (by decide +kernel) (by decide +kernel), lw_okI 315 (by decide +kernel) (by decide +kernel), cal_X1_gainIn.1, lw_okI 320 (by decide +kernel) (by decide +kernel), lw_okI 315 (by decide +kernel) (by decide +kernel), ⟨by decide +kernel, by decide +kernel⟩, by decide +kernel⟩
  · exact ⟨cal_X1_gainIn, RX7, "FlowCurves$Curve", TX7, 4, mX1_gainIn.2.1, mX1_gainIn.2.2.1, mX1_gainIn.2.2.2, rfl, lw_okI 369 (by decide +kernel) (by decide +kernel), lw_okI 317 (by decide +kernel) (by decide +kernel), lw_okI 315 (by decide +kernel) (by decide +kernel), cal_X1_gainIn.1, lw_okI 321 (by decide +kernel) (by decide +kernel), lw_okI 315 (by decide +kernel) (by decide +kernel), ⟨by decide +kernel, by decide +kernel⟩, by decide +kernel⟩
theorem ks_X3_69 : aLkS RX3 69 mX3_gainOf 3 := ⟨cal_X3_gainOf, lw_okI 370 (by decide +kernel) (by decide +kernel), lw_okI 371 (by decide +kernel) (by decide +kernel), by decide +kernel⟩
theorem kv_X3_73 : aLkV RX3 73 3 mX3_comesRound 3 := ⟨cal_X3_comesRound, RX3, TX3, 3, rfl, lw_okI 373 (by decide +kernel) (by decide +kernel), lw_okI 375 (by decide +kernel) (by decide +kernel), lw_okI 13 (by decide +kernel) (by decide +kernel), by decide +kernel⟩
theorem kv_L_44 : aLkV RL 44 8 mX9_times 2 := ⟨cal_X9_times, RX9, TX9, 10, rfl, lw_okI 377 (by decide +kernel) (by decide +kernel), lw_okI 378 (by decide +kernel) (by decide +kernel), lw_okI 379 (by decide +kernel) (by decide +kernel), by decide +kernel⟩
theorem kv_X9_107 : aLkV RX9 107 3 mX3_multiplied 2 := ⟨cal_X3_multiplied, RX3, TX3, 3, rfl, lw_okI 381 (by decide +kernel) (by decide +kernel), lw_okI 382 (by decide +kernel) (by decide +kernel), lw_okI 383 (by decide +kernel) (by decide +kernel), by decide +kernel⟩
theorem kv_L_48 : aLkV RL 48 8 mX9_shift 2 := ⟨cal_X9_shift, RX9, TX9, 10, rfl, lw_okI 385 (by decide +kernel) (by decide +kernel), lw_okI 386 (by decide +kernel) (by decide +kernel), lw_okI 387 (by decide +kernel) (by decide +kernel), by decide +kernel⟩
theorem kv_X9_111 : aLkV RX9 111 3 mX3_delayed 2 := ⟨cal_X3_delayed, RX3, TX3, 3, rfl, lw_okI 389 (by decide +kernel) (by decide +kernel), lw_okI 390 (by decide +kernel) (by decide +kernel), lw_okI 391 (by decide +kernel) (by decide +kernel), by decide +kernel⟩
theorem kv_L_52 : aLkV RL 52 8 mX9_undo 0 := ⟨cal_X9_undo, RX9, TX9, 10, rfl, lw_okI 393 (by decide +kernel) (by decide +kernel), lw_okI 394 (by decide +kernel) (by decide +kernel), lw_okI 395 (by decide +kernel) (by decide +kernel), by decide +kernel⟩
theorem kv_L_56 : aLkV RL 56 8 mX9_at 2 := ⟨cal_X9_at, RX9, TX9, 10, rfl, lw_okI 397 (by decide +kernel) (by decide +kernel), lw_okI 398 (by decide +kernel) (by decide +kernel), lw_okI 399 (by decide +kernel) (by decide +kernel), by decide +kernel⟩
theorem kv_X9_114 : aLkV RX9 114 8 mX9_refusedAmount 1 := ⟨cal_X9_refusedAmount, RX9, TX9, 10, rfl, lw_okI 401 (by decide +kernel) (by decide +kernel), lw_okI 403 (by decide +kernel) (by decide +kernel), lw_okI 14 (by decide +kernel) (by decide +kernel), by decide +kernel⟩
theorem ku_X9_118_0 : aLkU RX9 118 0 yX1_asked mX0_asked 2 := ⟨cal_X0_asked, RX0, "FlowCurves$Curve", TX0, 5, mX1_asked.2.1, mX1_asked.2.2.1, mX1_asked.2.2.2, rfl, lw_okI 406 (by decide +kernel) (by decide +kernel), lw_okI 409 (by decide +kernel) (by decide +kernel), lw_okI 407 (by decide +kernel) (by decide +kernel), cal_X1_asked.1, lw_okI 410 (by decide +kernel) (by decide +kernel), lw_okI 411 (by decide +kernel) (by decide +kernel), ⟨by decide +kernel, by decide +kernel⟩, by decide +kernel⟩
theorem ku_X9_118_1 : aLkU RX9 118 1 yX1_asked mX1_asked 2 := ⟨cal_X1_asked, RX1, "FlowCurves$Curve", TX1, 4, mX1_asked.2.1, mX1_asked.2.2.1, mX1_asked.2.2.2, rfl, lw_okI 406 (by decide +kernel) (by decide +kernel), lw_okI 409 (by decide +kernel) (by decide +kernel), lw_okI 407 (by decide +kernel) (by decide +kernel), cal_X1_asked.1, lw_okI 408 (by decide +kernel) (by decide +kernel), lw_okI 407 (by decide +kernel) (by decide +kernel), ⟨by decide +kernel, by decide +kernel⟩, by decide +kernel⟩
theorem ku_X9_118_2 : aLkU RX9 118 2 yX1_asked mX2_asked 2 := ⟨cal_X2_asked, RX2, "FlowCurves$Curve", TX2, 4, mX1_asked.2.1, mX1_asked.2.2.1, mX1_asked.2.2.2, rfl, lw_okI 406 (by decide +kernel) (by decide +kernel), lw_okI 409 (by decide +kernel) (by decide +kernel), lw_okI 407 (by decide +kernel) (by decide +kernel), cal_X1_asked.1, lw_okI 421 (by decide +kernel) (by decide +kernel), lw_okI 422 (by decide +kernel) (by decide +kernel), ⟨by decide +kernel, by decide +kernel⟩, by decide +kernel⟩
theorem ku_X9_118_4 : aLkU RX9 118 4 yX1_asked mX5_asked 2 := ⟨cal_X5_asked, RX5, "FlowCurves$Curve", TX5, 4, mX1_asked.2.1, mX1_asked.2.2.1, mX1_asked.2.2.2, rfl, lw_okI 406 (by decide +kernel) (by decide +kernel), lw_okI 409 (by decide +kernel) (by decide +kernel), lw_okI 407 (by decide +kernel) (by decide +kernel), cal_X1_asked.1, lw_okI 425 (by decide +kernel) (by decide +kernel), lw_okI 418 (by decide +kernel) (by decide +kernel), ⟨by decide +kernel, by decide +kernel⟩, by decide +kernel⟩
theorem ku_X9_118_6 : aLkU RX9 118 6 yX1_asked mX7_asked 2 := ⟨cal_X7_asked, RX7, "FlowCurves$Curve", TX7, 4, mX1_asked.2.1, mX1_asked.2.2.1, mX1_asked.2.2.2, rfl, lw_okI 406 (by decide +kernel) (by decide +kernel), lw_okI 409 (by decide +kernel) (by decide +kernel), lw_okI 407 (by decide +kernel) (by decide +kernel), cal_X1_asked.1, lw_okI 426 (by decide +kernel) (by decide +kernel), lw_okI 427 (by decide +kernel) (by decide +kernel), ⟨by decide +kernel, by decide +kernel⟩, by decide +kernel⟩
theorem kv_X0_15 : aLkV RX0 15 7 mX8_mark 1 := ⟨cal_X8_mark, RX8, TX8, 1, rfl, lw_okI 413 (by decide +kernel) (by decide +kernel), lw_okI 414 (by decide +kernel) (by decide +kernel), lw_okI 415 (by decide +kernel) (by decide +kernel), by decide +kernel⟩
theorem kz_X0_21 : aLkSU RX0 21 0 mX5_asked 2 := ⟨cal_X5_asked, RX0, TX0, 5, rfl, lw_okI 417 (by decide +kernel) (by decide +kernel), lw_okI 913 (by decide +kernel) (by decide +kernel), lw_okI 249 (by decide +kernel) (by decide +kernel), lw_okI 418 (by decide +kernel) (by decide +kernel), by decide +kernel, by decide +kernel⟩
theorem kv_X5_9 : aLkV RX5 9 7 mX8_mark 1 := ⟨cal_X8_mark, RX8, TX8, 1, rfl, lw_okI 420 (by decide +kernel) (by decide +kernel), lw_okI 414 (by decide +kernel) (by decide +kernel), lw_okI 415 (by decide +kernel) (by decide +kernel), by decide +kernel⟩
theorem kv_X2_9 : aLkV RX2 9 7 mX8_mark 1 := ⟨cal_X8_mark, RX8, TX8, 1, rfl, lw_okI 424 (by decide +kernel) (by decide +kernel), lw_okI 414 (by decide +kernel) (by decide +kernel), lw_okI 415 (by decide +kernel) (by decide +kernel), by decide +kernel⟩
theorem kv_X7_9 : aLkV RX7 9 7 mX8_mark 1 := ⟨cal_X8_mark, RX8, TX8, 1, rfl, lw_okI 429 (by decide +kernel) (by decide +kernel), lw_okI 414 (by decide +kernel) (by decide +kernel), lw_okI 415 (by decide +kernel) (by decide +kernel), by decide +kernel⟩
theorem kv_X1_25 : aLkV RX1 25 7 mX8_mark 1 := ⟨cal_X8_mark, RX8, TX8, 1, rfl, lw_okI 431 (by decide +kernel) (by decide +kernel), lw_okI 414 (by decide +kernel) (by decide +kernel), lw_okI 415 (by decide +kernel) (by decide +kernel), by decide +kernel⟩
theorem ku_X1_31 : ∀ ci, ci ∈ [0, 1, 2, 4, 6] → aLkU RX1 31 ci yX1_amount mX1_amount 1 := by
  intro ci h
  simp only [List.mem_cons, List.not_mem_nil, or_false] at h
  rcases h with rfl | rfl | rfl | rfl | rfl
  · exact ⟨cal_X1_amount, RX0, "FlowCurves$Curve", TX0, 5, mX1_amount.2.1, mX1_amount.2.2.1, mX1_amount.2.2.2, rfl, lw_okI 432 (by decide +kernel) (by decide +kernel), lw_okI 336 (by decide +kernel) (by decide +kernel), lw_okI 334 (by decide +kernel) (by decide +kernel), cal_X1_amount.1, lw_okI 337 (by decide +kernel) (by decide +kernel), lw_okI 334 (by decide +kernel) (by decide +kernel), ⟨by decide +kernel, by decide +kernel⟩, by decide +kernel⟩
  · exact ⟨cal_X1_amount, RX1, "FlowCurves$Curve", TX1, 4, mX1_amount.2.1, mX1_amount.2.2.1, mX1_amount.2.2.2, rfl, lw_okI 432 (by decide +kernel) (by decide +kernel), lw_okI 336 (by decide +kernel) (by decide +kernel), lw_okI 334 (by decide +kernel) (by decide +kernel), cal_X1_amount.1, lw_okI 335 (by decide +kernel) (by decide +kernel), lw_okI 334 (by decide +kernel) (by decide +kernel), ⟨by decide +kernel, by decide +kernel⟩, by decide +kernel⟩
  · exact ⟨cal_X1_amount, RX2, "FlowCurves$Curve", TX2, 4, mX1_amount.2.1, mX1_amount.2.2.1, mX1_amount.2.2.2, rfl, lw_okI 432 (by decide +kernel) (by decide +kernel), lw_okI 336 (by decide +kernel) (by decide +kernel), lw_okI 334 (by decide +kernel) (by decide +kernel), cal_X1_amount.1, lw_okI 338 (by decide +kernel) (by decide +kernel), lw_okI 334 (by decide +kernel) (by decide +kernel), ⟨by decide +kernel, by decide +kernel⟩, by decide +kernel⟩
  · exact ⟨cal_X1_amount, RX5, "FlowCurves$Curve", TX5, 4, mX1_amount.2.1, mX1_amount.2.2.1, mX1_amount.2.2.2, rfl, lw_okI 432 (by decide +kernel) (by decide +kernel), lw_okI 336 (by decide +kernel) (by decide +kernel), lw_okI 334 (by decide +kernel) (by decide +kernel), cal_X1_amount.1, lw_okI 339 (by decide +kernel) (by decide +kernel), lw_okI 334 (by decide +kernel) (by decide +kernel), ⟨by decide +kernel, by decide +kernel⟩, by decide +kernel⟩
  · exact ⟨cal_X1_amount, RX7, "FlowCurves$Curve", TX7, 4, mX1_amount.2.1, mX1_amount.2.2.1, mX1_amount.2.2.2, rfl, lw_okI 432 (by decide +kernel) (by decide +kernel), lw_okI 336 (by decide +kernel) (by decide +kernel), lw_okI 334 (by decide +kernel) (by decide +kernel), cal_X1_amount.1, lw_okI 340 (by decide +kernel) (by decide +kernel), lw_okI 334 (by decide +kernel) (by decide +kernel), ⟨by decide +kernel, by decide +kernel⟩, by decide +kernel⟩
theorem kv_X9_122 : aLkV RX9 122 8 mX9_grantedAmount 1 := ⟨cal_X9_grantedAmount, RX9, TX9, 10, rfl, lw_okI 433 (by decide +kernel) (by decide +kernel), lw_okI 435 (by decide +kernel) (by decide +kernel), lw_okI 15 (by decide +kernel) (by decide +kernel), by decide +kernel⟩
theorem kv_L_61 : aLkV RL 61 8 mX9_about 2 := ⟨cal_X9_about, RX9, TX9, 10, rfl, lw_okI 437 (by decide +kernel) (by decide +kernel), lw_okI 438 (by decide +kernel) (by decide +kernel), lw_okI 439 (by decide +kernel) (by decide +kernel), by decide +kernel⟩
theorem ku_X9_135_0 : aLkU RX9 135 0 yX1_kind mX0_kind 0 := ⟨cal_X0_kind, RX0, "FlowCurves$Curve", TX0, 5, mX1_kind.2.1, mX1_kind.2.2.1, mX1_kind.2.2.2, rfl, lw_okI 441 (by decide +kernel) (by decide +kernel), lw_okI 444 (by decide +kernel) (by decide +kernel), lw_okI 442 (by decide +kernel) (by decide +kernel), cal_X1_kind.1, lw_okI 445 (by decide +kernel) (by decide +kernel), lw_okI 446 (by decide +kernel) (by decide +kernel), ⟨by decide +kernel, by decide +kernel⟩, by decide +kernel⟩
theorem ku_X9_135_1 : aLkU RX9 135 1 yX1_kind mX1_kind 0 := ⟨cal_X1_kind, RX1, "FlowCurves$Curve", TX1, 4, mX1_kind.2.1, mX1_kind.2.2.1, mX1_kind.2.2.2, rfl, lw_okI 441 (by decide +kernel) (by decide +kernel), lw_okI 444 (by decide +kernel) (by decide +kernel), lw_okI 442 (by decide +kernel) (by decide +kernel), cal_X1_kind.1, lw_okI 443 (by decide +kernel) (by decide +kernel), lw_okI 442 (by decide +kernel) (by decide +kernel), ⟨by decide +kernel, by decide +kernel⟩, by decide +kernel⟩
theorem ku_X9_135_2 : aLkU RX9 135 2 yX1_kind mX2_kind 0 := ⟨cal_X2_kind, RX2, "FlowCurves$Curve", TX2, 4, mX1_kind.2.1, mX1_kind.2.2.1, mX1_kind.2.2.2, rfl, lw_okI 441 (by decide +kernel) (by decide +kernel), lw_okI 444 (by decide +kernel) (by decide +kernel), lw_okI 442 (by decide +kernel) (by decide +kernel), cal_X1_kind.1, lw_okI 448 (by decide +kernel) (by decide +kernel), lw_okI 449 (by decide +kernel) (by decide +kernel), ⟨by decide +kernel, by decide +kernel⟩, by decide +kernel⟩
theorem ku_X9_135_4 : aLkU RX9 135 4 yX1_kind mX5_kind 0 := ⟨cal_X5_kind, RX5, "FlowCurves$Curve", TX5, 4, mX1_kind.2.1, mX1_kind.2.2.1, mX1_kind.2.2.2, rfl, lw_okI 441 (by decide +kernel) (by decide +kernel), lw_okI 444 (by decide +kernel) (by decide +kernel), lw_okI 442 (by decide +kernel) (by decide +kernel), cal_X1_kind.1, lw_okI 451 (by decide +kernel) (by decide +kernel), lw_okI 452 (by decide +kernel) (by decide +kernel), ⟨by decide +kernel, by decide +kernel⟩, by decide +kernel⟩
theorem ku_X9_135_6 : aLkU RX9 135 6 yX1_kind mX7_kind 0 := ⟨cal_X7_kind, RX7, "FlowCurves$Curve", TX7, 4, mX1_kind.2.1, mX1_kind.2.2.1, mX1_kind.2.2.2, rfl, lw_okI 441 (by decide +kernel) (by decide +kernel), lw_okI 444 (by decide +kernel) (by decide +kernel), lw_okI 442 (by decide +kernel) (by decide +kernel), cal_X1_kind.1, lw_okI 454 (by decide +kernel) (by decide +kernel), lw_okI 455 (by decide +kernel) (by decide +kernel), ⟨by decide +kernel, by decide +kernel⟩, by decide +kernel⟩
theorem ku_X9_139 : ∀ ci, ci ∈ [0, 1, 2, 4, 6] → aLkU RX9 139 ci yX1_isClosed mX1_isClosed 0 := by
  intro ci h
  simp only [List.mem_cons, List.not_mem_nil, or_false] at h
  rcases h with rfl | rfl | rfl | rfl | rfl
  · exact ⟨cal_X1_isClosed, RX0, "FlowCurves$Curve", TX0, 5, mX1_isClosed.2.1, mX1_isClosed.2.2.1, mX1_isClosed.2.2.2, rfl, lw_okI 458 (by decide +kernel) (by decide +kernel), lw_okI 461 (by decide +kernel) (by decide +kernel), lw_okI 459 (by decide +kernel) (by decide +kernel), cal_X1_isClosed.1, lw_okI 462 (by decide +kernel) (by decide +kernel), lw_okI 459 (by decide +kernel) (by decide +kernel), ⟨by decide +kernel, by decide +kernel⟩, by decide +kernel⟩
  · exact ⟨cal_X1_isClosed, RX1, "FlowCurves$Curve", TX1, 4, mX1_isClosed.2.1, mX1_isClosed.2.2.1, mX1_isClosed.2.2.2, rfl, lw_okI 458 (by decide +kernel) (by decide +kernel), lw_okI 461 (by decide +kernel) (by decide +kernel), lw_okI 459 (by decide +kernel) (by decide +kernel), cal_X1_isClosed.1, lw_okI 460 (by decide +kernel) (by decide +kernel), lw_okI 459 (by decide +kernel) (by decide +kernel), ⟨by decide +kernel, by decide +kernel⟩, by decide +kernel⟩
  · exact ⟨cal_X1_isClosed, RX2, "FlowCurves$Curve", TX2, 4, mX1_isClosed.2.1, mX1_isClosed.2.2.1, mX1_isClosed.2.2.2, rfl, lw_okI 458 (by decide +kernel) (by decide +kernel), lw_okI 461 (by decide +kernel) (by decide +kernel), lw_okI 459 (by decide +kernel) (by decide +kernel), cal_X1_isClosed.1, lw_okI 463 (by decide +kernel) (by decide +kernel), lw_okI 459 (by decide +kernel) (by decide +kernel), ⟨by decide +kernel, by decide +kernel⟩, by decide +kernel⟩
  · exact ⟨cal_X1_isClosed, RX5, "FlowCurves$Curve", TX5, 4, mX1_isClosed.2.1, mX1_isClosed.2.2.1, mX1_isClosed.2.2.2, rfl, lw_okI 458 (by decide +kernel) (by decide +kernel), lw_okI 461 (by decide +kernel) (by decide +kernel), lw_okI 459 (by decide +kernel) (by decide +kernel), cal_X1_isClosed.1, lw_okI 464 (by decide +kernel) (by decide +kernel), lw_okI 459 (by decide +kernel) (by decide +kernel), ⟨by decide +kernel, by decide +kernel⟩, by decide +kernel⟩
  · exact ⟨cal_X1_isClosed, RX7, "FlowCurves$Curve", TX7, 4, mX1_isClosed.2.1, mX1_isClosed.2.2.1, mX1_isClosed.2.2.2, rfl, lw_okI 458 (by decide +kernel) (by decide +kernel), lw_okI 461 (by decide +kernel) (by decide +kernel), lw_okI 459 (by decide +kernel) (by decide +kernel), cal_X1_isClosed.1, lw_okI 465 (by decide +kernel) (by decide +kernel), lw_okI 459 (by decide +kernel) (by decide +kernel), ⟨by decide +kernel, by decide +kernel⟩, by decide +kernel⟩
theorem kv_L_65 : aLkV RL 65 8 mX9_rate 2 := ⟨cal_X9_rate, RX9, TX9, 10, rfl, lw_okI 467 (by decide +kernel) (by decide +kernel), lw_okI 468 (by decide +kernel) (by decide +kernel), lw_okI 469 (by decide +kernel) (by decide +kernel), by decide +kernel⟩
theorem ku_X9_143 : ∀ ci, ci ∈ [0, 1, 2, 4, 6] → aLkU RX9 143 ci yX1_sharedByGainAndStep mX1_sharedByGainAndStep 0 := by
  intro ci h
  simp only [List.mem_cons, List.not_mem_nil, or_false] at h
  rcases h with rfl | rfl | rfl | rfl | rfl
  · exact ⟨cal_X1_sharedByGainAndStep, RX0, "FlowCurves$Curve", TX0, 5, mX1_sharedByGainAndStep.2.1, mX1_sharedByGainAndStep.2.2.1, mX1_sharedByGainAndStep.2.2.2, rfl, lw_okI 471 (by decide +kernel) (by decide +kernel), lw_okI 474 (by decide +kernel) (by decide +kernel), lw_okI 472 (by decide +kernel) (by decide +kernel), cal_X1_sharedByGainAndStep.1, lw_okI 475 (by decide +kernel) (by decide +kernel), lw_okI 472 (by decide +kernel) (by decide +kernel), ⟨by decide +kernel, by decide +kernel⟩, by decide +kernel⟩
  · exact ⟨cal_X1_sharedByGainAndStep, RX1, "FlowCurves$Curve", TX1, 4, mX1_sharedByGainAndStep.2.1, mX1_sharedByGainAndStep.2.2.1, mX1_sharedByGainAndStep.2.2.2, rfl, lw_okI 471 (by decide +kernel) (by decide +kernel), lw_okI 474 (by decide +kernel) (by decide +kernel), lw_okI 472 (by decide +kernel) (by decide +kernel), cal_X1_sharedByGainAndStep.1, lw_okI 473 (by decide +kernel) (by decide +kernel), lw_okI 472 (by decide +kernel) (by decide +kernel), ⟨by decide +kernel, by decide +kernel⟩, by decide +kernel⟩
  · exact ⟨cal_X1_sharedByGainAndStep, RX2, "FlowCurves$Curve", TX2, 4, mX1_sharedByGainAndStep.2.1, mX1_sharedByGainAndStep.2.2.1, mX1_sharedByGainAndStep.2.2.2, rfl, lw_okI 471 (by decide +kernel) (by decide +kernel), lw_okI 474 (by decide +kernel) (by decide +kernel), lw_okI 472 (by decide +kernel) (by decide +kernel), cal_X1_sharedByGainAndStep.1, lw_okI 476 (by decide +kernel) (by decide +kernel), lw_okI 472 (by decide +kernel) (by decide +kernel), ⟨by decide +kernel, by decide +kernel⟩, by decide +kernel⟩
  · exact ⟨cal_X1_sharedByGainAndStep, RX5, "FlowCurves$Curve", TX5, 4, mX1_sharedByGainAndStep.2.1, mX1_sharedByGainAndStep.2.2.1, mX1_sharedByGainAndStep.2.2.2, rfl, lw_okI 471 (by decide +kernel) (by decide +kernel), lw_okI 474 (by decide +kernel) (by decide +kernel), lw_okI 472 (by decide +kernel) (by decide +kernel), cal_X1_sharedByGainAndStep.1, lw_okI 477 (by decide +kernel) (by decide +kernel), lw_okI 472 (by decide +kernel) (by decide +kernel), ⟨by decide +kernel, by decide +kernel⟩, by decide +kernel⟩
  · exact ⟨cal_X1_sharedByGainAndStep, RX7, "FlowCurves$Curve", TX7, 4, mX1_sharedByGainAndStep.2.1, mX1_sharedByGainAndStep.2.2.1, mX1_sharedByGainAndStep.2.2.2, rfl, lw_okI 471 (by decide +kernel) (by decide +kernel), lw_okI 474 (by decide +kernel) (by decide +kernel), lw_okI 472 (by decide +kernel) (by decide +kernel), cal_X1_sharedByGainAndStep.1, lw_okI 478 (by decide +kernel) (by decide +kernel), lw_okI 472 (by decide +kernel) (by decide +kernel), ⟨by decide +kernel, by decide +kernel⟩, by decide +kernel⟩
theorem kv_L_69 : aLkV RL 69 8 mX9_unlike 2 := ⟨cal_X9_unlike, RX9, TX9, 10, rfl, lw_okI 480 (by decide +kernel) (by decide +kernel), lw_okI 481 (by decide +kernel) (by decide +kernel), lw_okI 482 (by decide +kernel) (by decide +kernel), by decide +kernel⟩
theorem ks_X9_146 : aLkS RX9 146 mX4_firstUnlike 3 := ⟨cal_X4_firstUnlike, lw_okI 484 (by decide +kernel) (by decide +kernel), lw_okI 485 (by decide +kernel) (by decide +kernel), by decide +kernel⟩
theorem ks_X4_28 : aLkS RX4 28 mX4_settledSpan 3 := ⟨cal_X4_settledSpan, lw_okI 487 (by decide +kernel) (by decide +kernel), lw_okI 488 (by decide +kernel) (by decide +kernel), by decide +kernel⟩
theorem km_X4_22 : Cond.methodLink RX4 22 ⟨"java/lang/Math", "max", "(II)I"⟩ ∈ lw_ok := lw_okI 490 (by decide +kernel) (by decide +kernel)
theorem ku_X4_34 : ∀ ci, ci ∈ [0, 1, 2, 4, 6] → aLkU RX4 34 ci yX1_amount mX1_amount 1 := by
  intro ci h
  simp only [List.mem_cons, List.not_mem_nil, or_false] at h
  rcases h with rfl | rfl | rfl | rfl | rfl
  · exact ⟨cal_X1_amount, RX0, "FlowCurves$Curve", TX0, 5, mX1_amount.2.1, mX1_amount.2.2.1, mX1_amount.2.2.2, rfl, lw_okI 491 (by decide +kernel) (by decide +kernel), lw_okI 336 (by decide +kernel) (by decide +kernel), lw_okI 334 (by decide +kernel) (by decide +kernel), cal_X1_amount.1, lw_okI 337 (by decide +kernel) (by decide +kernel), lw_okI 334 (by decide +kernel) (by decide +kernel), ⟨by decide +kernel, by decide +kernel⟩, by decide +kernel⟩
  · exact ⟨cal_X1_amount, RX1, "FlowCurves$Curve", TX1, 4, mX1_amount.2.1, mX1_amount.2.2.1, mX1_amount.2.2.2, rfl, lw_okI 491 (by decide +kernel) (by decide +kernel), lw_okI 336 (by decide +kernel) (by decide +kernel), lw_okI 334 (by decide +kernel) (by decide +kernel), cal_X1_amount.1, lw_okI 335 (by decide +kernel) (by decide +kernel), lw_okI 334 (by decide +kernel) (by decide +kernel), ⟨by decide +kernel, by decide +kernel⟩, by decide +kernel⟩
  · exact ⟨cal_X1_amount, RX2, "FlowCurves$Curve", TX2, 4, mX1_amount.2.1, mX1_amount.2.2.1, mX1_amount.2.2.2, rfl, lw_okI 491 (by decide +kernel) (by decide +kernel), lw_okI 336 (by decide +kernel) (by decide +kernel), lw_okI 334 (by decide +kernel) (by decide +kernel), cal_X1_amount.1, lw_okI 338 (by decide +kernel) (by decide +kernel), lw_okI 334 (by decide +kernel) (by decide +kernel), ⟨by decide +kernel, by decide +kernel⟩, by decide +kernel⟩
  · exact ⟨cal_X1_amount, RX5, "FlowCurves$Curve", TX5, 4, mX1_amount.2.1, mX1_amount.2.2.1, mX1_amount.2.2.2, rfl, lw_okI 491 (by decide +kernel) (by decide +kernel), lw_okI 336 (by decide +kernel) (by decide +kernel), lw_okI 334 (by decide +kernel) (by decide +kernel), cal_X1_amount.1, lw_okI 339 (by decide +kernel) (by decide +kernel), lw_okI 334 (by decide +kernel) (by decide +kernel), ⟨by decide +kernel, by decide +kernel⟩, by decide +kernel⟩
  · exact ⟨cal_X1_amount, RX7, "FlowCurves$Curve", TX7, 4, mX1_amount.2.1, mX1_amount.2.2.1, mX1_amount.2.2.2, rfl, lw_okI 491 (by decide +kernel) (by decide +kernel), lw_okI 336 (by decide +kernel) (by decide +kernel), lw_okI 334 (by decide +kernel) (by decide +kernel), cal_X1_amount.1, lw_okI 340 (by decide +kernel) (by decide +kernel), lw_okI 334 (by decide +kernel) (by decide +kernel), ⟨by decide +kernel, by decide +kernel⟩, by decide +kernel⟩
theorem kv_L_73 : aLkV RL 73 8 mX9_below 2 := ⟨cal_X9_below, RX9, TX9, 10, rfl, lw_okI 492 (by decide +kernel) (by decide +kernel), lw_okI 493 (by decide +kernel) (by decide +kernel), lw_okI 494 (by decide +kernel) (by decide +kernel), by decide +kernel⟩
theorem ks_X9_150 : aLkS RX9 150 mX4_greatestLead 3 := ⟨cal_X4_greatestLead, lw_okI 496 (by decide +kernel) (by decide +kernel), lw_okI 497 (by decide +kernel) (by decide +kernel), by decide +kernel⟩
theorem km_X4_37 : Cond.methodLink RX4 37 ⟨"java/lang/Math", "max", "(JJ)J"⟩ ∈ lw_ok := lw_okI 499 (by decide +kernel) (by decide +kernel)
theorem kv_L_77 : aLkV RL 77 8 mX9_first 2 := ⟨cal_X9_first, RX9, TX9, 10, rfl, lw_okI 500 (by decide +kernel) (by decide +kernel), lw_okI 501 (by decide +kernel) (by decide +kernel), lw_okI 502 (by decide +kernel) (by decide +kernel), by decide +kernel⟩
theorem ku_X9_154 : ∀ ci, ci ∈ [0, 1, 2, 4, 6] → aLkU RX9 154 ci yX1_firstReaching mX1_firstReaching 2 := by
  intro ci h
  simp only [List.mem_cons, List.not_mem_nil, or_false] at h
  rcases h with rfl | rfl | rfl | rfl | rfl
  · exact ⟨cal_X1_firstReaching, RX0, "FlowCurves$Curve", TX0, 5, mX1_firstReaching.2.1, mX1_firstReaching.2.2.1, mX1_firstReaching.2.2.2, rfl, lw_okI 504 (by decide +kernel) (by decide +kernel), lw_okI 507 (by decide +kernel) (by decide +kernel), lw_okI 505 (by decide +kernel) (by decide +kernel), cal_X1_firstReaching.1, lw_okI 508 (by decide +kernel) (by decide +kernel), lw_okI 505 (by decide +kernel) (by decide +kernel), ⟨by decide +kernel, by decide +kernel⟩, by decide +kernel⟩
  · exact ⟨cal_X1_firstReaching, RX1, "FlowCurves$Curve", TX1, 4, mX1_firstReaching.2.1, mX1_firstReaching.2.2.1, mX1_firstReaching.2.2.2, rfl, lw_okI 504 (by decide +kernel) (by decide +kernel), lw_okI 507 (by decide +kernel) (by decide +kernel), lw_okI 505 (by decide +kernel) (by decide +kernel), cal_X1_firstReaching.1, lw_okI 506 (by decide +kernel) (by decide +kernel), lw_okI 505 (by decide +kernel) (by decide +kernel), ⟨by decide +kernel, by decide +kernel⟩, by decide +kernel⟩
  · exact ⟨cal_X1_firstReaching, RX2, "FlowCurves$Curve", TX2, 4, mX1_firstReaching.2.1, mX1_firstReaching.2.2.1, mX1_firstReaching.2.2.2, rfl, lw_okI 504 (by decide +kernel) (by decide +kernel), lw_okI 507 (by decide +kernel) (by decide +kernel), lw_okI 505 (by decide +kernel) (by decide +kernel), cal_X1_firstReaching.1, lw_okI 509 (by decide +kernel) (by decide +kernel), lw_okI 505 (by decide +kernel) (by decide +kernel), ⟨by decide +kernel, by decide +kernel⟩, by decide +kernel⟩
  · exact ⟨cal_X1_firstReaching, RX5, "FlowCurves$Curve", TX5, 4, mX1_firstReaching.2.1, mX1_firstReaching.2.2.1, mX1_firstReaching.2.2.2, rfl, lw_okI 504 (by decide +kernel) (by decide +kernel), lw_okI 507 (by decide +kernel) (by decide +kernel), lw_okI 505 (by decide +kernel) (by decide +kernel), cal_X1_firstReaching.1, lw_okI 510 (by decide +kernel) (by decide +kernel), lw_okI 505 (by decide +kernel) (by decide +kernel), ⟨by decide +kernel, by decide +kernel⟩, by decide +kernel⟩
  · exact ⟨cal_X1_firstReaching, RX7, "FlowCurves$Curve", TX7, 4, mX1_firstReaching.2.1, mX1_firstReaching.2.2.1, mX1_firstReaching.2.2.2, rfl, lw_okI 504 (by decide +kernel) (by decide +kernel), lw_okI 507 (by decide +kernel) (by decide +kernel), lw_okI 505 (by decide +kernel) (by decide +kernel), cal_X1_firstReaching.1, lw_okI 511 (by decide +kernel) (by decide +kernel), lw_okI 505 (by decide +kernel) (by decide +kernel), ⟨by decide +kernel, by decide +kernel⟩, by decide +kernel⟩
theorem kv_L_82 : aLkV RL 82 8 mX9_heap 2 := ⟨cal_X9_heap, RX9, TX9, 10, rfl, lw_okI 513 (by decide +kernel) (by decide +kernel), lw_okI 514 (by decide +kernel) (by decide +kernel), lw_okI 515 (by decide +kernel) (by decide +kernel), by decide +kernel⟩
theorem kv_L_86 : aLkV RL 86 8 mX9_wait 2 := ⟨cal_X9_wait, RX9, TX9, 10, rfl, lw_okI 517 (by decide +kernel) (by decide +kernel), lw_okI 518 (by decide +kernel) (by decide +kernel), lw_okI 519 (by decide +kernel) (by decide +kernel), by decide +kernel⟩
theorem ks_X9_158 : aLkS RX9 158 mX4_longestWait 3 := ⟨cal_X4_longestWait, lw_okI 521 (by decide +kernel) (by decide +kernel), lw_okI 522 (by decide +kernel) (by decide +kernel), by decide +kernel⟩
theorem ku_X4_41 : ∀ ci, ci ∈ [0, 1, 2, 4, 6] → aLkU RX4 41 ci yX1_firstReaching mX1_firstReaching 2 := by
  intro ci h
  simp only [List.mem_cons, List.not_mem_nil, or_false] at h
  rcases h with rfl | rfl | rfl | rfl | rfl
  · exact ⟨cal_X1_firstReaching, RX0, "FlowCurves$Curve", TX0, 5, mX1_firstReaching.2.1, mX1_firstReaching.2.2.1, mX1_firstReaching.2.2.2, rfl, lw_okI 525 (by decide +kernel) (by decide +kernel), lw_okI 507 (by decide +kernel) (by decide +kernel), lw_okI 505 (by decide +kernel) (by decide +kernel), cal_X1_firstReaching.1, lw_okI 508 (by decide +kernel) (by decide +kernel), lw_okI 505 (by decide +kernel) (by decide +kernel), ⟨by decide +kernel, by decide +kernel⟩, by decide +kernel⟩
  · exact ⟨cal_X1_firstReaching, RX1, "FlowCurves$Curve", TX1, 4, mX1_firstReaching.2.1, mX1_firstReaching.2.2.1, mX1_firstReaching.2.2.2, rfl, lw_okI 525 (by decide +kernel) (by decide +kernel), lw_okI 507 (by decide +kernel) (by decide +kernel), lw_okI 505 (by decide +kernel) (by decide +kernel), cal_X1_firstReaching.1, lw_okI 506 (by decide +kernel) (by decide +kernel), lw_okI 505 (by decide +kernel) (by decide +kernel), ⟨by decide +kernel, by decide +kernel⟩, by decide +kernel⟩
  · exact ⟨cal_X1_firstReaching, RX2, "FlowCurves$Curve", TX2, 4, mX1_firstReaching.2.1, mX1_firstReaching.2.2.1, mX1_firstReaching.2.2.2, rfl, lw_okI 525 (by decide +kernel) (by decide +kernel), lw_okI 507 (by decide +kernel) (by decide +kernel), lw_okI 505 (by decide +kernel) (by decide +kernel), cal_X1_firstReaching.1, lw_okI 509 (by decide +kernel) (by decide +kernel), lw_okI 505 (by decide +kernel) (by decide +kernel), ⟨by decide +kernel, by decide +kernel⟩, by decide +kernel⟩
  · exact ⟨cal_X1_firstReaching, RX5, "FlowCurves$Curve", TX5, 4, mX1_firstReaching.2.1, mX1_firstReaching.2.2.1, mX1_firstReaching.2.2.2, rfl, lw_okI 525 (by decide +kernel) (by decide +kernel), lw_okI 507 (by decide +kernel) (by decide +kernel), lw_okI 505 (by decide +kernel) (by decide +kernel), cal_X1_firstReaching.1, lw_okI 510 (by decide +kernel) (by decide +kernel), lw_okI 505 (by decide +kernel) (by decide +kernel), ⟨by decide +kernel, by decide +kernel⟩, by decide +kernel⟩
  · exact ⟨cal_X1_firstReaching, RX7, "FlowCurves$Curve", TX7, 4, mX1_firstReaching.2.1, mX1_firstReaching.2.2.1, mX1_firstReaching.2.2.2, rfl, lw_okI 525 (by decide +kernel) (by decide +kernel), lw_okI 507 (by decide +kernel) (by decide +kernel), lw_okI 505 (by decide +kernel) (by decide +kernel), cal_X1_firstReaching.1, lw_okI 511 (by decide +kernel) (by decide +kernel), lw_okI 505 (by decide +kernel) (by decide +kernel), ⟨by decide +kernel, by decide +kernel⟩, by decide +kernel⟩
theorem kv_L_90 : aLkV RL 90 8 mX9_come 1 := ⟨cal_X9_come, RX9, TX9, 10, rfl, lw_okI 526 (by decide +kernel) (by decide +kernel), lw_okI 527 (by decide +kernel) (by decide +kernel), lw_okI 528 (by decide +kernel) (by decide +kernel), by decide +kernel⟩
theorem kv_X9_161 : aLkV RX9 161 5 mX6_isFull 0 := ⟨cal_X6_isFull, RX6, TX6, 2, rfl, lw_okI 530 (by decide +kernel) (by decide +kernel), lw_okI 531 (by decide +kernel) (by decide +kernel), lw_okI 532 (by decide +kernel) (by decide +kernel), by decide +kernel⟩
theorem kv_X9_164 : aLkV RX9 164 5 mX6_add 1 := ⟨cal_X6_add, RX6, TX6, 2, rfl, lw_okI 534 (by decide +kernel) (by decide +kernel), lw_okI 535 (by decide +kernel) (by decide +kernel), lw_okI 536 (by decide +kernel) (by decide +kernel), by decide +kernel⟩
theorem kv_X6_19 : aLkV RX6 19 5 mX6_isFull 0 := ⟨cal_X6_isFull, RX6, TX6, 2, rfl, lw_okI 538 (by decide +kernel) (by decide +kernel), lw_okI 531 (by decide +kernel) (by decide +kernel), lw_okI 532 (by decide +kernel) (by decide +kernel), by decide +kernel⟩
theorem kv_L_94 : aLkV RL 94 8 mX9_hardest 2 := ⟨cal_X9_hardest, RX9, TX9, 10, rfl, lw_okI 539 (by decide +kernel) (by decide +kernel), lw_okI 540 (by decide +kernel) (by decide +kernel), lw_okI 541 (by decide +kernel) (by decide +kernel), by decide +kernel⟩
theorem ks_X9_171 : aLkS RX9 171 mX6_canFollow 2 := ⟨cal_X6_canFollow, lw_okI 543 (by decide +kernel) (by decide +kernel), lw_okI 544 (by decide +kernel) (by decide +kernel), by decide +kernel⟩
theorem ks_X6_29 : aLkS RX6 29 mX6_hardestStep 2 := ⟨cal_X6_hardestStep, lw_okI 546 (by decide +kernel) (by decide +kernel), lw_okI 547 (by decide +kernel) (by decide +kernel), by decide +kernel⟩
theorem ku_X6_23 : ∀ ci, ci ∈ [0, 1, 2, 4, 6] → aLkU RX6 23 ci yX1_amount mX1_amount 1 := by
  intro ci h
  simp only [List.mem_cons, List.not_mem_nil, or_false] at h
  rcases h with rfl | rfl | rfl | rfl | rfl
  · exact ⟨cal_X1_amount, RX0, "FlowCurves$Curve", TX0, 5, mX1_amount.2.1, mX1_amount.2.2.1, mX1_amount.2.2.2, rfl, lw_okI 549 (by decide +kernel) (by decide +kernel), lw_okI 336 (by decide +kernel) (by decide +kernel), lw_okI 334 (by decide +kernel) (by decide +kernel), cal_X1_amount.1, lw_okI 337 (by decide +kernel) (by decide +kernel), lw_okI 334 (by decide +kernel) (by decide +kernel), ⟨by decide +kernel, by decide +kernel⟩, by decide +kernel⟩
  · exact ⟨cal_X1_amount, RX1, "FlowCurves$Curve", TX1, 4, mX1_amount.2.1, mX1_amount.2.2.1, mX1_amount.2.2.2, rfl, lw_okI 549 (by decide +kernel) (by decide +kernel), lw_okI 336 (by decide +kernel) (by decide +kernel), lw_okI 334 (by decide +kernel) (by decide +kernel), cal_X1_amount.1, lw_okI 335 (by decide +kernel) (by decide +kernel), lw_okI 334 (by decide +kernel) (by decide +kernel), ⟨by decide +kernel, by decide +kernel⟩, by decide +kernel⟩
  · exact ⟨cal_X1_amount, RX2, "FlowCurves$Curve", TX2, 4, mX1_amount.2.1, mX1_amount.2.2.1, mX1_amount.2.2.2, rfl, lw_okI 549 (by decide +kernel) (by decide +kernel), lw_okI 336 (by decide +kernel) (by decide +kernel), lw_okI 334 (by decide +kernel) (by decide +kernel), cal_X1_amount.1, lw_okI 338 (by decide +kernel) (by decide +kernel), lw_okI 334 (by decide +kernel) (by decide +kernel), ⟨by decide +kernel, by decide +kernel⟩, by decide +kernel⟩
  · exact ⟨cal_X1_amount, RX5, "FlowCurves$Curve", TX5, 4, mX1_amount.2.1, mX1_amount.2.2.1, mX1_amount.2.2.2, rfl, lw_okI 549 (by decide +kernel) (by decide +kernel), lw_okI 336 (by decide +kernel) (by decide +kernel), lw_okI 334 (by decide +kernel) (by decide +kernel), cal_X1_amount.1, lw_okI 339 (by decide +kernel) (by decide +kernel), lw_okI 334 (by decide +kernel) (by decide +kernel), ⟨by decide +kernel, by decide +kernel⟩, by decide +kernel⟩
  · exact ⟨cal_X1_amount, RX7, "FlowCurves$Curve", TX7, 4, mX1_amount.2.1, mX1_amount.2.2.1, mX1_amount.2.2.2, rfl, lw_okI 549 (by decide +kernel) (by decide +kernel), lw_okI 336 (by decide +kernel) (by decide +kernel), lw_okI 334 (by decide +kernel) (by decide +kernel), cal_X1_amount.1, lw_okI 340 (by decide +kernel) (by decide +kernel), lw_okI 334 (by decide +kernel) (by decide +kernel), ⟨by decide +kernel, by decide +kernel⟩, by decide +kernel⟩
theorem kv_X9_175 : aLkV RX9 175 5 mX6_follow 2 := ⟨cal_X6_follow, RX6, TX6, 2, rfl, lw_okI 551 (by decide +kernel) (by decide +kernel), lw_okI 552 (by decide +kernel) (by decide +kernel), lw_okI 553 (by decide +kernel) (by decide +kernel), by decide +kernel⟩
theorem kv_X6_35 : aLkV RX6 35 5 mX6_add 1 := ⟨cal_X6_add, RX6, TX6, 2, rfl, lw_okI 555 (by decide +kernel) (by decide +kernel), lw_okI 535 (by decide +kernel) (by decide +kernel), lw_okI 536 (by decide +kernel) (by decide +kernel), by decide +kernel⟩
theorem kv_L_98 : aLkV RL 98 8 mX9_stop 0 := ⟨cal_X9_stop, RX9, TX9, 10, rfl, lw_okI 556 (by decide +kernel) (by decide +kernel), lw_okI 557 (by decide +kernel) (by decide +kernel), lw_okI 558 (by decide +kernel) (by decide +kernel), by decide +kernel⟩
theorem kv_L_102 : aLkV RL 102 8 mX9_serve 1 := ⟨cal_X9_serve, RX9, TX9, 10, rfl, lw_okI 560 (by decide +kernel) (by decide +kernel), lw_okI 561 (by decide +kernel) (by decide +kernel), lw_okI 562 (by decide +kernel) (by decide +kernel), by decide +kernel⟩
theorem kv_L_106 : aLkV RL 106 8 mX9_moved 2 := ⟨cal_X9_moved, RX9, TX9, 10, rfl, lw_okI 564 (by decide +kernel) (by decide +kernel), lw_okI 565 (by decide +kernel) (by decide +kernel), lw_okI 566 (by decide +kernel) (by decide +kernel), by decide +kernel⟩
theorem kv_X9_179 : aLkV RX9 179 5 mX6_arrived 1 := ⟨cal_X6_arrived, RX6, TX6, 2, rfl, lw_okI 568 (by decide +kernel) (by decide +kernel), lw_okI 569 (by decide +kernel) (by decide +kernel), lw_okI 570 (by decide +kernel) (by decide +kernel), by decide +kernel⟩
theorem km_X6_39 : Cond.methodLink RX6 39 ⟨"java/lang/Math", "min", "(II)I"⟩ ∈ lw_ok := lw_okI 572 (by decide +kernel) (by decide +kernel)
theorem kv_X9_182 : aLkV RX9 182 5 mX6_passed 2 := ⟨cal_X6_passed, RX6, TX6, 2, rfl, lw_okI 573 (by decide +kernel) (by decide +kernel), lw_okI 574 (by decide +kernel) (by decide +kernel), lw_okI 575 (by decide +kernel) (by decide +kernel), by decide +kernel⟩
theorem kv_X6_45 : aLkV RX6 45 5 mX6_arrived 1 := ⟨cal_X6_arrived, RX6, TX6, 2, rfl, lw_okI 577 (by decide +kernel) (by decide +kernel), lw_okI 569 (by decide +kernel) (by decide +kernel), lw_okI 570 (by decide +kernel) (by decide +kernel), by decide +kernel⟩
theorem km_X6_48 : Cond.methodLink RX6 48 ⟨"java/lang/Math", "min", "(JJ)J"⟩ ∈ lw_ok := lw_okI 578 (by decide +kernel) (by decide +kernel)
theorem kv_X9_186 : aLkV RX9 186 5 mX6_held 2 := ⟨cal_X6_held, RX6, TX6, 2, rfl, lw_okI 579 (by decide +kernel) (by decide +kernel), lw_okI 580 (by decide +kernel) (by decide +kernel), lw_okI 581 (by decide +kernel) (by decide +kernel), by decide +kernel⟩
theorem kv_X6_51 : aLkV RX6 51 5 mX6_passed 2 := ⟨cal_X6_passed, RX6, TX6, 2, rfl, lw_okI 583 (by decide +kernel) (by decide +kernel), lw_okI 574 (by decide +kernel) (by decide +kernel), lw_okI 575 (by decide +kernel) (by decide +kernel), by decide +kernel⟩
theorem kv_L_110 : aLkV RL 110 8 mX9_late 1 := ⟨cal_X9_late, RX9, TX9, 10, rfl, lw_okI 584 (by decide +kernel) (by decide +kernel), lw_okI 585 (by decide +kernel) (by decide +kernel), lw_okI 586 (by decide +kernel) (by decide +kernel), by decide +kernel⟩
theorem kv_X9_189 : aLkV RX9 189 5 mX6_lateness 2 := ⟨cal_X6_lateness, RX6, TX6, 2, rfl, lw_okI 588 (by decide +kernel) (by decide +kernel), lw_okI 589 (by decide +kernel) (by decide +kernel), lw_okI 590 (by decide +kernel) (by decide +kernel), by decide +kernel⟩
theorem kv_L_114 : aLkV RL 114 8 mX9_mostHeld 0 := ⟨cal_X9_mostHeld, RX9, TX9, 10, rfl, lw_okI 592 (by decide +kernel) (by decide +kernel), lw_okI 593 (by decide +kernel) (by decide +kernel), lw_okI 594 (by decide +kernel) (by decide +kernel), by decide +kernel⟩
theorem kv_X9_193 : aLkV RX9 193 5 mX6_greatestHeld 1 := ⟨cal_X6_greatestHeld, RX6, TX6, 2, rfl, lw_okI 596 (by decide +kernel) (by decide +kernel), lw_okI 597 (by decide +kernel) (by decide +kernel), lw_okI 598 (by decide +kernel) (by decide +kernel), by decide +kernel⟩
theorem kv_X6_54 : aLkV RX6 54 5 mX6_held 2 := ⟨cal_X6_held, RX6, TX6, 2, rfl, lw_okI 600 (by decide +kernel) (by decide +kernel), lw_okI 580 (by decide +kernel) (by decide +kernel), lw_okI 581 (by decide +kernel) (by decide +kernel), by decide +kernel⟩
theorem km_X6_57 : Cond.methodLink RX6 57 ⟨"java/lang/Math", "max", "(JJ)J"⟩ ∈ lw_ok := lw_okI 601 (by decide +kernel) (by decide +kernel)
theorem kv_L_119 : aLkV RL 119 8 mX9_mostLate 0 := ⟨cal_X9_mostLate, RX9, TX9, 10, rfl, lw_okI 602 (by decide +kernel) (by decide +kernel), lw_okI 603 (by decide +kernel) (by decide +kernel), lw_okI 604 (by decide +kernel) (by decide +kernel), by decide +kernel⟩
theorem kv_X9_197 : aLkV RX9 197 5 mX6_greatestLateness 1 := ⟨cal_X6_greatestLateness, RX6, TX6, 2, rfl, lw_okI 606 (by decide +kernel) (by decide +kernel), lw_okI 607 (by decide +kernel) (by decide +kernel), lw_okI 608 (by decide +kernel) (by decide +kernel), by decide +kernel⟩
theorem kv_X6_60 : aLkV RX6 60 5 mX6_lateness 2 := ⟨cal_X6_lateness, RX6, TX6, 2, rfl, lw_okI 610 (by decide +kernel) (by decide +kernel), lw_okI 589 (by decide +kernel) (by decide +kernel), lw_okI 590 (by decide +kernel) (by decide +kernel), by decide +kernel⟩
theorem km_X6_64 : Cond.methodLink RX6 64 ⟨"java/lang/Math", "max", "(II)I"⟩ ∈ lw_ok := lw_okI 611 (by decide +kernel) (by decide +kernel)
theorem kv_L_123 : aLkV RL 123 8 mX9_keeps 1 := ⟨cal_X9_keeps, RX9, TX9, 10, rfl, lw_okI 612 (by decide +kernel) (by decide +kernel), lw_okI 613 (by decide +kernel) (by decide +kernel), lw_okI 614 (by decide +kernel) (by decide +kernel), by decide +kernel⟩
theorem kv_X9_200 : aLkV RX9 200 5 mX6_staysWithin 1 := ⟨cal_X6_staysWithin, RX6, TX6, 2, rfl, lw_okI 616 (by decide +kernel) (by decide +kernel), lw_okI 617 (by decide +kernel) (by decide +kernel), lw_okI 618 (by decide +kernel) (by decide +kernel), by decide +kernel⟩
theorem kv_L_127 : aLkV RL 127 8 mX9_count 1 := ⟨cal_X9_count, RX9, TX9, 10, rfl, lw_okI 620 (by decide +kernel) (by decide +kernel), lw_okI 621 (by decide +kernel) (by decide +kernel), lw_okI 622 (by decide +kernel) (by decide +kernel), by decide +kernel⟩
theorem kv_L_131 : aLkV RL 131 8 mX9_trace 1 := ⟨cal_X9_trace, RX9, TX9, 10, rfl, lw_okI 624 (by decide +kernel) (by decide +kernel), lw_okI 625 (by decide +kernel) (by decide +kernel), lw_okI 626 (by decide +kernel) (by decide +kernel), by decide +kernel⟩
theorem kv_X9_204 : aLkV RX9 204 7 mX8_marks 1 := ⟨cal_X8_marks, RX8, TX8, 1, rfl, lw_okI 628 (by decide +kernel) (by decide +kernel), lw_okI 629 (by decide +kernel) (by decide +kernel), lw_okI 630 (by decide +kernel) (by decide +kernel), by decide +kernel⟩
theorem kv_L_135 : aLkV RL 135 8 mX9_status 0 := ⟨cal_X9_status, RX9, TX9, 10, rfl, lw_okI 632 (by decide +kernel) (by decide +kernel), lw_okI 633 (by decide +kernel) (by decide +kernel), lw_okI 634 (by decide +kernel) (by decide +kernel), by decide +kernel⟩
theorem kv_L_139 : aLkV RL 139 8 mX9_clear 0 := ⟨cal_X9_clear, RX9, TX9, 10, rfl, lw_okI 636 (by decide +kernel) (by decide +kernel), lw_okI 637 (by decide +kernel) (by decide +kernel), lw_okI 638 (by decide +kernel) (by decide +kernel), by decide +kernel⟩
theorem ki_L_12 : aLkI RL 12 mX10_init 0 := ⟨cal_X10_init, rfl, lw_okI 642 (by decide +kernel) (by decide +kernel), lw_okI 643 (by decide +kernel) (by decide +kernel), rfl, by decide +kernel⟩
theorem ko_X10_1 : Cond.methodLink RX10 1 Lib.objectInit ∈ lw_ok := lw_okI 645 (by decide +kernel) (by decide +kernel)
theorem kv_L_19 : aLkV RL 19 9 mX10_put 1 := ⟨cal_X10_put, RX10, TX10, 15, rfl, lw_okI 692 (by decide +kernel) (by decide +kernel), lw_okI 693 (by decide +kernel) (by decide +kernel), lw_okI 694 (by decide +kernel) (by decide +kernel), by decide +kernel⟩
theorem ks_X10_50 : aLkS RX10 50 mX10_in 3 := ⟨cal_X10_in, lw_okI 697 (by decide +kernel) (by decide +kernel), lw_okI 698 (by decide +kernel) (by decide +kernel), by decide +kernel⟩
theorem kv_X10_58 : aLkV RX10 58 9 mX10_refuse 1 := ⟨cal_X10_refuse, RX10, TX10, 15, rfl, lw_okI 700 (by decide +kernel) (by decide +kernel), lw_okI 702 (by decide +kernel) (by decide +kernel), lw_okI 16 (by decide +kernel) (by decide +kernel), by decide +kernel⟩
theorem kv_X10_73 : aLkV RX10 73 9 mX10_fine 1 := ⟨cal_X10_fine, RX10, TX10, 15, rfl, lw_okI 704 (by decide +kernel) (by decide +kernel), lw_okI 706 (by decide +kernel) (by decide +kernel), lw_okI 17 (by decide +kernel) (by decide +kernel), by decide +kernel⟩
theorem kv_L_24 : aLkV RL 24 9 mX10_draw 3 := ⟨cal_X10_draw, RX10, TX10, 15, rfl, lw_okI 708 (by decide +kernel) (by decide +kernel), lw_okI 709 (by decide +kernel) (by decide +kernel), lw_okI 710 (by decide +kernel) (by decide +kernel), by decide +kernel⟩
theorem kv_L_29 : aLkV RL 29 9 mX10_drop 0 := ⟨cal_X10_drop, RX10, TX10, 15, rfl, lw_okI 716 (by decide +kernel) (by decide +kernel), lw_okI 717 (by decide +kernel) (by decide +kernel), lw_okI 718 (by decide +kernel) (by decide +kernel), by decide +kernel⟩
theorem kv_L_34 : aLkV RL 34 9 mX10_curve 2 := ⟨cal_X10_curve, RX10, TX10, 15, rfl, lw_okI 720 (by decide +kernel) (by decide +kernel), lw_okI 721 (by decide +kernel) (by decide +kernel), lw_okI 722 (by decide +kernel) (by decide +kernel), by decide +kernel⟩
theorem kv_X10_87 : aLkV RX10 87 9 mX10_settle 2 := ⟨cal_X10_settle, RX10, TX10, 15, rfl, lw_okI 726 (by decide +kernel) (by decide +kernel), lw_okI 728 (by decide +kernel) (by decide +kernel), lw_okI 18 (by decide +kernel) (by decide +kernel), by decide +kernel⟩
theorem kv_X10_54 : aLkV RX10 54 9 mX10_comesRound 3 := ⟨cal_X10_comesRound, RX10, TX10, 15, rfl, lw_okI 730 (by decide +kernel) (by decide +kernel), lw_okI 732 (by decide +kernel) (by decide +kernel), lw_okI 19 (by decide +kernel) (by decide +kernel), by decide +kernel⟩
theorem kv_X10_66 : aLkV RX10 66 9 mX10_kindOf 1 := ⟨cal_X10_kindOf, RX10, TX10, 15, rfl, lw_okI 734 (by decide +kernel) (by decide +kernel), lw_okI 736 (by decide +kernel) (by decide +kernel), lw_okI 20 (by decide +kernel) (by decide +kernel), by decide +kernel⟩
theorem kv_L_39 : aLkV RL 39 9 mX10_ray 1 := ⟨cal_X10_ray, RX10, TX10, 15, rfl, lw_okI 738 (by decide +kernel) (by decide +kernel), lw_okI 739 (by decide +kernel) (by decide +kernel), lw_okI 740 (by decide +kernel) (by decide +kernel), by decide +kernel⟩
theorem kv_L_43 : aLkV RL 43 9 mX10_of 3 := ⟨cal_X10_of, RX10, TX10, 15, rfl, lw_okI 742 (by decide +kernel) (by decide +kernel), lw_okI 743 (by decide +kernel) (by decide +kernel), lw_okI 744 (by decide +kernel) (by decide +kernel), by decide +kernel⟩
theorem kv_X10_109 : aLkV RX10 109 9 mX10_isCurve 1 := ⟨cal_X10_isCurve, RX10, TX10, 15, rfl, lw_okI 747 (by decide +kernel) (by decide +kernel), lw_okI 749 (by decide +kernel) (by decide +kernel), lw_okI 21 (by decide +kernel) (by decide +kernel), by decide +kernel⟩
theorem kv_X10_113 : aLkV RX10 113 9 mX10_together 2 := ⟨cal_X10_together, RX10, TX10, 15, rfl, lw_okI 751 (by decide +kernel) (by decide +kernel), lw_okI 753 (by decide +kernel) (by decide +kernel), lw_okI 22 (by decide +kernel) (by decide +kernel), by decide +kernel⟩
theorem ks_X10_91 : aLkS RX10 91 mX10_divisor 2 := ⟨cal_X10_divisor, lw_okI 755 (by decide +kernel) (by decide +kernel), lw_okI 756 (by decide +kernel) (by decide +kernel), by decide +kernel⟩
theorem kv_X10_116 : aLkV RX10 116 9 mX10_gainIn 2 := ⟨cal_X10_gainIn, RX10, TX10, 15, rfl, lw_okI 758 (by decide +kernel) (by decide +kernel), lw_okI 760 (by decide +kernel) (by decide +kernel), lw_okI 23 (by decide +kernel) (by decide +kernel), by decide +kernel⟩
theorem kv_X10_120 : aLkV RX10 120 9 mX10_make 4 := ⟨cal_X10_make, RX10, TX10, 15, rfl, lw_okI 762 (by decide +kernel) (by decide +kernel), lw_okI 764 (by decide +kernel) (by decide +kernel), lw_okI 24 (by decide +kernel) (by decide +kernel), by decide +kernel⟩
theorem kv_X10_95 : aLkV RX10 95 9 mX10_value 2 := ⟨cal_X10_value, RX10, TX10, 15, rfl, lw_okI 766 (by decide +kernel) (by decide +kernel), lw_okI 768 (by decide +kernel) (by decide +kernel), lw_okI 25 (by decide +kernel) (by decide +kernel), by decide +kernel⟩
theorem kv_X10_99 : aLkV RX10 99 9 mX10_least 3 := ⟨cal_X10_least, RX10, TX10, 15, rfl, lw_okI 770 (by decide +kernel) (by decide +kernel), lw_okI 772 (by decide +kernel) (by decide +kernel), lw_okI 26 (by decide +kernel) (by decide +kernel), by decide +kernel⟩
theorem kv_X10_103 : aLkV RX10 103 9 mX10_most 4 := ⟨cal_X10_most, RX10, TX10, 15, rfl, lw_okI 774 (by decide +kernel) (by decide +kernel), lw_okI 776 (by decide +kernel) (by decide +kernel), lw_okI 27 (by decide +kernel) (by decide +kernel), by decide +kernel⟩
theorem kv_L_47 : aLkV RL 47 9 mX10_times 2 := ⟨cal_X10_times, RX10, TX10, 15, rfl, lw_okI 778 (by decide +kernel) (by decide +kernel), lw_okI 779 (by decide +kernel) (by decide +kernel), lw_okI 780 (by decide +kernel) (by decide +kernel), by decide +kernel⟩
theorem kv_L_51 : aLkV RL 51 9 mX10_shift 2 := ⟨cal_X10_shift, RX10, TX10, 15, rfl, lw_okI 783 (by decide +kernel) (by decide +kernel), lw_okI 784 (by decide +kernel) (by decide +kernel), lw_okI 785 (by decide +kernel) (by decide +kernel), by decide +kernel⟩
theorem kv_L_55 : aLkV RL 55 9 mX10_undo 0 := ⟨cal_X10_undo, RX10, TX10, 15, rfl, lw_okI 788 (by decide +kernel) (by decide +kernel), lw_okI 789 (by decide +kernel) (by decide +kernel), lw_okI 790 (by decide +kernel) (by decide +kernel), by decide +kernel⟩
theorem kv_L_60 : aLkV RL 60 9 mX10_at 2 := ⟨cal_X10_at, RX10, TX10, 15, rfl, lw_okI 792 (by decide +kernel) (by decide +kernel), lw_okI 793 (by decide +kernel) (by decide +kernel), lw_okI 794 (by decide +kernel) (by decide +kernel), by decide +kernel⟩
theorem kv_X10_128 : aLkV RX10 128 9 mX10_none 1 := ⟨cal_X10_none, RX10, TX10, 15, rfl, lw_okI 796 (by decide +kernel) (by decide +kernel), lw_okI 798 (by decide +kernel) (by decide +kernel), lw_okI 28 (by decide +kernel) (by decide +kernel), by decide +kernel⟩
theorem kv_X10_132 : aLkV RX10 132 9 mX10_fineLong 1 := ⟨cal_X10_fineLong, RX10, TX10, 15, rfl, lw_okI 801 (by decide +kernel) (by decide +kernel), lw_okI 803 (by decide +kernel) (by decide +kernel), lw_okI 29 (by decide +kernel) (by decide +kernel), by decide +kernel⟩
theorem kv_L_64 : aLkV RL 64 9 mX10_about 2 := ⟨cal_X10_about, RX10, TX10, 15, rfl, lw_okI 805 (by decide +kernel) (by decide +kernel), lw_okI 806 (by decide +kernel) (by decide +kernel), lw_okI 807 (by decide +kernel) (by decide +kernel), by decide +kernel⟩
theorem kv_X10_138 : aLkV RX10 138 9 mX10_isClosed 1 := ⟨cal_X10_isClosed, RX10, TX10, 15, rfl, lw_okI 810 (by decide +kernel) (by decide +kernel), lw_okI 812 (by decide +kernel) (by decide +kernel), lw_okI 30 (by decide +kernel) (by decide +kernel), by decide +kernel⟩
theorem kv_L_68 : aLkV RL 68 9 mX10_rate 2 := ⟨cal_X10_rate, RX10, TX10, 15, rfl, lw_okI 814 (by decide +kernel) (by decide +kernel), lw_okI 815 (by decide +kernel) (by decide +kernel), lw_okI 816 (by decide +kernel) (by decide +kernel), by decide +kernel⟩
theorem kv_L_72 : aLkV RL 72 9 mX10_unlike 2 := ⟨cal_X10_unlike, RX10, TX10, 15, rfl, lw_okI 818 (by decide +kernel) (by decide +kernel), lw_okI 819 (by decide +kernel) (by decide +kernel), lw_okI 820 (by decide +kernel) (by decide +kernel), by decide +kernel⟩
theorem kv_X10_141 : aLkV RX10 141 9 mX10_latest 2 := ⟨cal_X10_latest, RX10, TX10, 15, rfl, lw_okI 822 (by decide +kernel) (by decide +kernel), lw_okI 824 (by decide +kernel) (by decide +kernel), lw_okI 31 (by decide +kernel) (by decide +kernel), by decide +kernel⟩
theorem kv_L_76 : aLkV RL 76 9 mX10_below 2 := ⟨cal_X10_below, RX10, TX10, 15, rfl, lw_okI 826 (by decide +kernel) (by decide +kernel), lw_okI 827 (by decide +kernel) (by decide +kernel), lw_okI 828 (by decide +kernel) (by decide +kernel), by decide +kernel⟩
theorem kv_L_81 : aLkV RL 81 9 mX10_first 2 := ⟨cal_X10_first, RX10, TX10, 15, rfl, lw_okI 830 (by decide +kernel) (by decide +kernel), lw_okI 831 (by decide +kernel) (by decide +kernel), lw_okI 832 (by decide +kernel) (by decide +kernel), by decide +kernel⟩
theorem kv_X10_144 : aLkV RX10 144 9 mX10_spanOf 2 := ⟨cal_X10_spanOf, RX10, TX10, 15, rfl, lw_okI 834 (by decide +kernel) (by decide +kernel), lw_okI 836 (by decide +kernel) (by decide +kernel), lw_okI 32 (by decide +kernel) (by decide +kernel), by decide +kernel⟩
theorem kv_L_85 : aLkV RL 85 9 mX10_heap 2 := ⟨cal_X10_heap, RX10, TX10, 15, rfl, lw_okI 838 (by decide +kernel) (by decide +kernel), lw_okI 839 (by decide +kernel) (by decide +kernel), lw_okI 840 (by decide +kernel) (by decide +kernel), by decide +kernel⟩
theorem kv_L_89 : aLkV RL 89 9 mX10_wait 2 := ⟨cal_X10_wait, RX10, TX10, 15, rfl, lw_okI 842 (by decide +kernel) (by decide +kernel), lw_okI 843 (by decide +kernel) (by decide +kernel), lw_okI 844 (by decide +kernel) (by decide +kernel), by decide +kernel⟩
theorem kv_L_93 : aLkV RL 93 9 mX10_come 1 := ⟨cal_X10_come, RX10, TX10, 15, rfl, lw_okI 846 (by decide +kernel) (by decide +kernel), lw_okI 847 (by decide +kernel) (by decide +kernel), lw_okI 848 (by decide +kernel) (by decide +kernel), by decide +kernel⟩
theorem kv_L_97 : aLkV RL 97 9 mX10_hardest 2 := ⟨cal_X10_hardest, RX10, TX10, 15, rfl, lw_okI 850 (by decide +kernel) (by decide +kernel), lw_okI 851 (by decide +kernel) (by decide +kernel), lw_okI 852 (by decide +kernel) (by decide +kernel), by decide +kernel⟩
theorem kv_L_101 : aLkV RL 101 9 mX10_stop 0 := ⟨cal_X10_stop, RX10, TX10, 15, rfl, lw_okI 854 (by decide +kernel) (by decide +kernel), lw_okI 855 (by decide +kernel) (by decide +kernel), lw_okI 856 (by decide +kernel) (by decide +kernel), by decide +kernel⟩
theorem kv_L_105 : aLkV RL 105 9 mX10_serve 1 := ⟨cal_X10_serve, RX10, TX10, 15, rfl, lw_okI 858 (by decide +kernel) (by decide +kernel), lw_okI 859 (by decide +kernel) (by decide +kernel), lw_okI 860 (by decide +kernel) (by decide +kernel), by decide +kernel⟩
theorem kv_L_109 : aLkV RL 109 9 mX10_moved 2 := ⟨cal_X10_moved, RX10, TX10, 15, rfl, lw_okI 862 (by decide +kernel) (by decide +kernel), lw_okI 863 (by decide +kernel) (by decide +kernel), lw_okI 864 (by decide +kernel) (by decide +kernel), by decide +kernel⟩
theorem kv_X10_150 : aLkV RX10 150 9 mX10_came 1 := ⟨cal_X10_came, RX10, TX10, 15, rfl, lw_okI 868 (by decide +kernel) (by decide +kernel), lw_okI 870 (by decide +kernel) (by decide +kernel), lw_okI 33 (by decide +kernel) (by decide +kernel), by decide +kernel⟩
theorem kv_X10_157 : aLkV RX10 157 9 mX10_served 1 := ⟨cal_X10_served, RX10, TX10, 15, rfl, lw_okI 872 (by decide +kernel) (by decide +kernel), lw_okI 874 (by decide +kernel) (by decide +kernel), lw_okI 34 (by decide +kernel) (by decide +kernel), by decide +kernel⟩
theorem kv_L_113 : aLkV RL 113 9 mX10_late 1 := ⟨cal_X10_late, RX10, TX10, 15, rfl, lw_okI 876 (by decide +kernel) (by decide +kernel), lw_okI 877 (by decide +kernel) (by decide +kernel), lw_okI 878 (by decide +kernel) (by decide +kernel), by decide +kernel⟩
theorem kv_X10_160 : aLkV RX10 160 9 mX10_lateAt 1 := ⟨cal_X10_lateAt, RX10, TX10, 15, rfl, lw_okI 880 (by decide +kernel) (by decide +kernel), lw_okI 882 (by decide +kernel) (by decide +kernel), lw_okI 35 (by decide +kernel) (by decide +kernel), by decide +kernel⟩
theorem kv_L_118 : aLkV RL 118 9 mX10_mostHeld 0 := ⟨cal_X10_mostHeld, RX10, TX10, 15, rfl, lw_okI 884 (by decide +kernel) (by decide +kernel), lw_okI 885 (by decide +kernel) (by decide +kernel), lw_okI 886 (by decide +kernel) (by decide +kernel), by decide +kernel⟩
theorem kv_L_122 : aLkV RL 122 9 mX10_mostLate 0 := ⟨cal_X10_mostLate, RX10, TX10, 15, rfl, lw_okI 888 (by decide +kernel) (by decide +kernel), lw_okI 889 (by decide +kernel) (by decide +kernel), lw_okI 890 (by decide +kernel) (by decide +kernel), by decide +kernel⟩
theorem kv_L_126 : aLkV RL 126 9 mX10_keeps 1 := ⟨cal_X10_keeps, RX10, TX10, 15, rfl, lw_okI 892 (by decide +kernel) (by decide +kernel), lw_okI 893 (by decide +kernel) (by decide +kernel), lw_okI 894 (by decide +kernel) (by decide +kernel), by decide +kernel⟩
theorem kv_L_130 : aLkV RL 130 9 mX10_count 1 := ⟨cal_X10_count, RX10, TX10, 15, rfl, lw_okI 896 (by decide +kernel) (by decide +kernel), lw_okI 897 (by decide +kernel) (by decide +kernel), lw_okI 898 (by decide +kernel) (by decide +kernel), by decide +kernel⟩
theorem kv_L_134 : aLkV RL 134 9 mX10_trace 1 := ⟨cal_X10_trace, RX10, TX10, 15, rfl, lw_okI 900 (by decide +kernel) (by decide +kernel), lw_okI 901 (by decide +kernel) (by decide +kernel), lw_okI 902 (by decide +kernel) (by decide +kernel), by decide +kernel⟩
theorem kv_L_138 : aLkV RL 138 9 mX10_status 0 := ⟨cal_X10_status, RX10, TX10, 15, rfl, lw_okI 904 (by decide +kernel) (by decide +kernel), lw_okI 905 (by decide +kernel) (by decide +kernel), lw_okI 906 (by decide +kernel) (by decide +kernel), by decide +kernel⟩
theorem kv_L_142 : aLkV RL 142 9 mX10_clear 0 := ⟨cal_X10_clear, RX10, TX10, 15, rfl, lw_okI 908 (by decide +kernel) (by decide +kernel), lw_okI 909 (by decide +kernel) (by decide +kernel), lw_okI 910 (by decide +kernel) (by decide +kernel), by decide +kernel⟩
end
section
/-! ===== small helps of the walks ===== -/
theorem okI_c {x : Int} (h : (decide (-2147483648 ≤ x) && decide (x ≤ 2147483647)) = true) : okI x := by
  simp only [Bool.and_eq_true, decide_eq_true_eq] at h
  exact h
theorem okJ_c {x : Int} (h : (decide (-9223372036854775808 ≤ x) && decide (x ≤ 9223372036854775807)) = true) : okJ x := by
  simp only [Bool.and_eq_true, decide_eq_true_eq] at h
  exact h
section XN
variable {G : aG} {X : aM} {d mc ms : Nat} {Q : Option aV → aH → Prop} {pc : Nat} {L : List (Nat × aV)} {st : List aV} {h : aH} {kc ks : Nat}
theorem x_nmI {x : Int} (k : ∀ y : Int, y = x → EX G X d mc ms Q pc L (vI y :: st) h kc ks) : EX G X d mc ms Q pc L (vI x :: st) h kc ks := k x rfl
theorem x_nmJ {x : Int} (k : ∀ y : Int, y = x → EX G X d mc ms Q pc L (vJ y :: st) h kc ks) : EX G X d mc ms Q pc L (vJ x :: st) h kc ks := k x rfl
theorem x_asI {x y : Int} (e : x = y) (k : EX G X d mc ms Q pc L (vI y :: st) h kc ks) : EX G X d mc ms Q pc L (vI x :: st) h kc ks := e ▸ k
theorem x_asJ {x y : Int} (e : x = y) (k : EX G X d mc ms Q pc L (vJ y :: st) h kc ks) : EX G X d mc ms Q pc L (vJ x :: st) h kc ks := e ▸ k
theorem x_asR {x y : Option Nat} (e : x = y) (k : EX G X d mc ms Q pc L (vR y :: st) h kc ks) : EX G X d mc ms Q pc L (vR x :: st) h kc ks := e ▸ k
theorem x_ash {h' : aH} (e : h = h') (k : EX G X d mc ms Q pc L st h' kc ks) : EX G X d mc ms Q pc L st h kc ks := e ▸ k
theorem x_nmh (k : ∀ h' : aH, h' = h → EX G X d mc ms Q pc L st h' kc ks) : EX G X d mc ms Q pc L st h kc ks := k h rfl
def Ret (v : aV) (h : aH) : Option aV → aH → Prop := fun r h' => r = some v ∧ h' = h
def Voi (h : aH) : Option aV → aH → Prop := fun r h' => r = none ∧ h' = h
theorem after_ret {v : aV} {h' : aH} (k : EX G X d mc ms Q pc L (v :: st) h' kc ks) : ∀ (r : Option aV) (h1 : aH), Ret v h' r h1 → EX G X d mc ms Q pc L (r.toList ++ st) h1 kc ks := by
  rintro r h1 ⟨rfl, rfl⟩
  exact k
theorem after_void {h' : aH} (k : EX G X d mc ms Q pc L st h' kc ks) : ∀ (r : Option aV) (h1 : aH), Voi h' r h1 → EX G X d mc ms Q pc L (r.toList ++ st) h1 kc ks := by
  rintro r h1 ⟨rfl, rfl⟩
  exact k
end XN
theorem retI {x y : Int} {h : aH} (e : x = y) : Ret (vI y) h (some (vI x)) h := ⟨by rw [e], rfl⟩
theorem retJ {x y : Int} {h : aH} (e : x = y) : Ret (vJ y) h (some (vJ x)) h := ⟨by rw [e], rfl⟩
theorem retR {x y : Option Nat} {h : aH} (e : x = y) : Ret (vR y) h (some (vR x)) h := ⟨by rw [e], rfl⟩
theorem nar_r (r : Option Nat) {ty : FieldType} (h : (∃ n, ty = .object n) ∨ ∃ t, ty = .array t) : narrow ty (cv (vR r)) = cv (vR r) := by
  rcases h with ⟨n, rfl⟩ | ⟨t, rfl⟩ <;> cases r <;> rfl
theorem fit_r (r : Option Nat) {ty : FieldType} (h : (∃ n, ty = .object n) ∨ ∃ t, ty = .array t) : fits ty (cv (vR r)) = true := by
  rcases h with ⟨n, rfl⟩ | ⟨t, rfl⟩ <;> cases r <;> rfl
theorem MC.mono {G : aG} {X : aM} {d mc ms : Nat} {args : List aV} {h : aH} {Q Q' : Option aV → aH → Prop} (k : MC G X d mc ms args h Q) (hq : ∀ r h', Q r h' → Q' r h') : MC G X d mc ms args h Q' := by
  intro ha hh sz
  have := k ha hh sz
  intro p e h1 h2 h3 s m av below h4 h5 h6 h7
  obtain ⟨t, o, b1, b2, b3, b4⟩ := this p e h1 h2 h3 s m av below h4 h5 h6 h7
  exact ⟨t, o, b1, b2, b3, aQ.mono hq b4.1, b4.2⟩
-- the state of a curve
def cvF (ci : Nat) (T D C : Int) (a : Nat) (ld : Int) : List aV := vI T :: vI D :: vI C :: vA a :: (if ci = 0 then [vJ ld] else [])
def CvAt (h : aH) (c ci a : Nat) (T D C : Int) (am : Nat → Int) (ld : Int) : Prop := h c = some (eO ci (cvF ci T D C a ld)) ∧ h a = some (eJ (T + D).toNat am) ∧ ci ∈ [0, 1, 2, 4, 6]
/-- an amount of a curve at a span -/
def cval (T D C : Int) (am : Nat → Int) (t : Int) : Int := if t < T + D then am t.toNat else am (T + (t - T) % D).toNat + (t - T) / D * C
/-- what a curve's numbers keep to -/
def CvOk (T D C : Int) (am : Nat → Int) : Prop := 0 ≤ T ∧ T ≤ 200 ∧ 1 ≤ D ∧ D ≤ 60 ∧ 0 ≤ C ∧ C ≤ 1000000000 ∧ (∀ i : Int, 0 ≤ i → i < T + D → 0 ≤ am i.toNat ∧ am i.toNat ≤ 1000000000000) ∧ (∀ i : Int, 0 ≤ i → i + 1 < T + D → am i.toNat ≤ am (i + 1).toNat) ∧ am (T + D - 1).toNat ≤ am T.toNat + C
end
section
/-! ===== a curve's amounts, as mathematics ===== -/
theorem cval_lt {T D C t : Int} {am : Nat → Int} (h : t < T + D) : cval T D C am t = am t.toNat := by rw [cval, if_pos h]
theorem cval_per {T D C t : Int} {am : Nat → Int} (hD : 1 ≤ D) (ht : T ≤ t) : cval T D C am (t + D) = cval T D C am t + C := by
  have e1 : (t + D - T) % D = (t - T) % D := by
    have := Int.add_mul_emod_self_right (a := t - T) (b := 1) (c := D)
    rw [Int.one_mul] at this
    rw [← this]; congr 1; omega
  have e2 : (t + D - T) / D = (t - T) / D + 1 := by
    have := Int.add_mul_ediv_right (t - T) 1 (show D ≠ 0 by omega)
    rw [Int.one_mul] at this
    rw [← this]; congr 1; omega
  rw [cval, if_neg (by omega), e1, e2]
  by_cases h : t < T + D
  · rw [cval, if_pos h, Int.emod_eq_of_lt (by omega) (by omega), Int.ediv_eq_zero_of_lt (by omega) (by omega)]
    rw [show T + (t - T) = t by omega]; omega
  · rw [cval, if_neg h, Int.add_mul]; omega
theorem cval_step {T D C : Int} {am : Nat → Int} (ok : CvOk T D C am) : ∀ (n : Nat) (t : Int), 0 ≤ t → t.toNat ≤ n → cval T D C am t ≤ cval T D C am (t + 1) := by
  obtain ⟨hT0, hT2, hD0, hD6, hC0, hC1, hA, hM, hW⟩ := ok
  intro n
  induction n with
  | zero =>
    intro t h0 hn
    have ht : t = 0 := by omega
    subst ht
    by_cases h1 : (0 : Int) + 1 < T + D
    · rw [cval_lt (by omega), cval_lt h1]; exact hM 0 (by omega) h1
    · have hT : T = 0 := by omega
      have hD : D = 1 := by omega
      subst hT; subst hD
      have := cval_per (T := 0) (D := 1) (C := C) (am := am) (t := 0) (by omega) (by omega)
      rw [this]; omega
  | succ n ih =>
    intro t h0 hn
    by_cases h1 : t + 1 < T + D
    · rw [cval_lt (by omega), cval_lt h1]; exact hM t (by omega) h1
    · by_cases h2 : t < T + D
      · have e : t + 1 = T + D := by omega
        rw [e, cval_per hD0 (Int.le_refl T), cval_lt h2, cval_lt (show T < T + D by omega)]
        rw [show t = T + D - 1 by omega]; exact hW
      · have p1 := cval_per (T := T) (D := D) (C := C) (am := am) (t := t - D) hD0 (by omega)
        have p2 := cval_per (T := T) (D := D) (C := C) (am := am) (t := t + 1 - D) hD0 (by omega)
        rw [show t - D + D = t by omega] at p1
        rw [show t + 1 - D + D = t + 1 by omega] at p2
        rw [p1, p2]
        have := ih (t - D) (by omega) (by omega)
        rw [show t - D + 1 = t + 1 - D by omega] at this
        omega
theorem cval_mono {T D C s t : Int} {am : Nat → Int} (ok : CvOk T D C am) (hs : 0 ≤ s) (hst : s ≤ t) : cval T D C am s ≤ cval T D C am t := by
  obtain ⟨k, rfl⟩ : ∃ k : Nat, t = s + k := ⟨(t - s).toNat, by omega⟩
  clear hst
  induction k with
  | zero => simp
  | succ k ih =>
    have := cval_step ok (s + k).toNat (s + k) (by omega) (Nat.le_refl _)
    rw [show s + ((k + 1 : Nat) : Int) = s + k + 1 by omega]
    omega
theorem cval_nn {T D C t : Int} {am : Nat → Int} (ok : CvOk T D C am) (ht : 0 ≤ t) : 0 ≤ cval T D C am t := by
  have h1 := cval_mono ok (Int.le_refl 0) ht
  obtain ⟨hT0, hT2, hD0, hD6, hC0, hC1, hA, hM, hW⟩ := ok
  have h2 := (hA 0 (by omega) (by omega)).1
  rw [cval_lt (t := 0) (by omega)] at h1
  omega
theorem cval_top {T D C t : Int} {am : Nat → Int} (ok : CvOk T D C am) (ht : 0 ≤ t) : cval T D C am t ≤ 1000000000000 + t * 1000000000 := by
  obtain ⟨hT0, hT2, hD0, hD6, hC0, hC1, hA, hM, hW⟩ := ok
  by_cases h : t < T + D
  · rw [cval_lt h]
    have := (hA t ht h).2
    omega
  · rw [cval, if_neg h]
    have m1 : 0 ≤ (t - T) % D := Int.emod_nonneg _ (by omega)
    have m2 : (t - T) % D < D := Int.emod_lt_of_pos _ (by omega)
    have q1 : 0 ≤ (t - T) / D := Int.ediv_nonneg (by omega) (by omega)
    have q2 : (t - T) / D ≤ t - T := Int.ediv_le_self _ (by omega)
    have := (hA (T + (t - T) % D) (by omega) (by omega)).2
    have h3 : (t - T) / D * C ≤ t * 1000000000 := Int.mul_le_mul (by omega) hC1 hC0 ht
    omega
theorem cval_pers {T D C t : Int} {am : Nat → Int} (hD : 1 ≤ D) (ht : T ≤ t) (k : Nat) : cval T D C am (t + k * D) = cval T D C am t + k * C := by
  induction k with
  | zero => simp
  | succ k ih =>
    have e : t + ((k + 1 : Nat) : Int) * D = t + k * D + D := by rw [Int.natCast_add, Int.add_mul]; simp; omega
    have hk : 0 ≤ (k : Int) * D := Int.mul_nonneg (by omega) (by omega)
    rw [e, cval_per hD (by omega), ih, Int.natCast_add, Int.add_mul]; simp; omega
-- truth as a number
noncomputable def b2i (P : Prop) : Int := @ite Int P (Classical.propDecidable P) 1 0
theorem b2i_t {P : Prop} (h : P) : b2i P = 1 := by rw [b2i, if_pos h]
theorem b2i_f {P : Prop} (h : ¬ P) : b2i P = 0 := by rw [b2i, if_neg h]
theorem b2i_or (P : Prop) : b2i P = 0 ∨ b2i P = 1 := by
  by_cases h : P
  · exact Or.inr (b2i_t h)
  · exact Or.inl (b2i_f h)
theorem b2i_congr {P Q : Prop} (h : P ↔ Q) : b2i P = b2i Q := by rw [propext h]
-- the least span with an amount of v or above
def First (F : Int → Int) (v last x : Int) : Prop := (x = -1 ∧ ∀ t, 0 ≤ t → t ≤ last → F t < v) ∨ (0 ≤ x ∧ x ≤ last ∧ v ≤ F x ∧ ∀ t, 0 ≤ t → t < x → F t < v)
theorem First.uniq {F : Int → Int} {v last x y : Int} (hx : First F v last x) (hy : First F v last y) : x = y := by
  rcases hx with ⟨h1, h2⟩ | ⟨h1, h2, h3, h4⟩ <;> rcases hy with ⟨g1, g2⟩ | ⟨g1, g2, g3, g4⟩
  · omega
  · have := h2 y g1 g2; omega
  · have := g2 x h1 h2; omega
  · rcases Int.lt_trichotomy x y with q | q | q
    · have := g4 x h1 q; omega
    · exact q
    · have := h4 y g1 q; omega
theorem First.ex (F : Int → Int) (v last : Int) : ∃ x, First F v last x := by
  have h : ∀ n : Nat, (∀ t : Int, 0 ≤ t → t < n → F t < v) ∨ ∃ x : Int, 0 ≤ x ∧ x < n ∧ v ≤ F x ∧ ∀ t, 0 ≤ t → t < x → F t < v := by
    intro n
    induction n with
    | zero => exact Or.inl fun t h0 h1 => by omega
    | succ n ih =>
      rcases ih with ih | ⟨x, a, b, c, e⟩
      · by_cases q : F n < v
        · left
          intro t h0 h1
          by_cases e : t = n
          · rw [e]; exact q
          · exact ih t h0 (by omega)
        · exact Or.inr ⟨n, by omega, by omega, by omega, ih⟩
      · exact Or.inr ⟨x, a, by omega, c, e⟩
  rcases h (last + 1).toNat with q | ⟨x, a, b, c, e⟩
  · exact ⟨-1, Or.inl ⟨rfl, fun t h0 h1 => q t h0 (by omega)⟩⟩
  · exact ⟨x, Or.inr ⟨a, by omega, c, e⟩⟩
noncomputable def firstS (F : Int → Int) (v last : Int) : Int := Classical.choose (First.ex F v last)
theorem firstS_spec (F : Int → Int) (v last : Int) : First F v last (firstS F v last) := Classical.choose_spec (First.ex F v last)
theorem First.eq {F : Int → Int} {v last x : Int} (h : First F v last x) : x = firstS F v last := h.uniq (firstS_spec F v last)
-- the greatest of some, 0 at least
def sup0 (f : Int → Int) : Nat → Int
  | 0 => 0
  | n + 1 => max (sup0 f n) (f n)
theorem sup0_s {f : Int → Int} {t : Int} (h : 0 ≤ t) : sup0 f (t + 1).toNat = max (sup0 f t.toNat) (f t) := by
  rw [show (t + 1).toNat = t.toNat + 1 by omega]
  show max _ (f (t.toNat : Int)) = _
  rw [show ((t.toNat : Nat) : Int) = t by omega]
theorem sup0_nn (f : Int → Int) (n : Nat) : 0 ≤ sup0 f n := by
  induction n with
  | zero => exact Int.le_refl 0
  | succ n ih => simp only [sup0]; omega
theorem sup0_ge {f : Int → Int} {n : Nat} {t : Int} (h0 : 0 ≤ t) (h : t < n) : f t ≤ sup0 f n := by
  induction n with
  | zero => omega
  | succ n ih =>
    simp only [sup0]
    by_cases e : t = n
    · subst e; omega
    · have := ih (by omega); omega
theorem sup0_le {f : Int → Int} {n : Nat} {v : Int} (hv : 0 ≤ v) (h : ∀ t : Int, 0 ≤ t → t < n → f t ≤ v) : sup0 f n ≤ v := by
  induction n with
  | zero => exact hv
  | succ n ih =>
    simp only [sup0]
    have h1 := ih fun t a b => h t a (by omega)
    have h2 := h n (by omega) (by omega)
    omega
theorem sup0_congr {f g : Int → Int} {n : Nat} (h : ∀ t : Int, 0 ≤ t → t < n → f t = g t) : sup0 f n = sup0 g n := by
  induction n with
  | zero => rfl
  | succ n ih =>
    simp only [sup0]
    rw [ih fun t a b => h t a (by omega), h n (by omega) (by omega)]
theorem sup0_at (f : Int → Int) (n : Nat) : sup0 f n = 0 ∨ ∃ t : Int, 0 ≤ t ∧ t < n ∧ sup0 f n = f t := by
  induction n with
  | zero => exact Or.inl rfl
  | succ n ih =>
    simp only [sup0]
    by_cases h : f n ≤ sup0 f n
    · rw [Int.max_eq_left h]
      rcases ih with ih | ⟨t, a, b, c⟩
      · exact Or.inl ih
      · exact Or.inr ⟨t, a, by omega, c⟩
    · rw [Int.max_eq_right (by omega)]
      exact Or.inr ⟨n, by omega, by omega, rfl⟩
/-- BOTH-less facts of a closed curve -/
def Closed (T D C : Int) (am : Nat → Int) : Prop := am 0 = 0 ∧ ∀ s t : Int, 1 ≤ s → s ≤ t → t < T + D → cval T D C am (s + t) ≤ am s.toNat + am t.toNat
-- powers of two
theorem shl1 {b : Int} (h0 : 0 ≤ b) (h1 : b ≤ 30) : Int32.ofInt 1 <<< (Int32.ofInt b &&& 31) = Int32.ofInt (2 ^ b.toNat) := by
  have h : ∀ n : Fin 31, Int32.ofInt 1 <<< (Int32.ofInt (n.val : Int) &&& 31) = Int32.ofInt (2 ^ n.val) := by decide +kernel
  have := h ⟨b.toNat, by omega⟩
  rw [show (((⟨b.toNat, by omega⟩ : Fin 31).val : Nat) : Int) = b by simp; omega] at this
  exact this
theorem pow_s {b : Int} (h0 : 0 ≤ b) : (2 : Int) ^ (b + 1).toNat = 2 * 2 ^ b.toNat := by
  rw [show (b + 1).toNat = b.toNat + 1 by omega, Int.pow_succ]; omega
theorem pow_le {b : Int} (h0 : 0 ≤ b) (h1 : b ≤ 30) : 1 ≤ (2 : Int) ^ b.toNat ∧ (2 : Int) ^ b.toNat ≤ 1073741824 := by
  have h : ∀ n : Fin 31, 1 ≤ (2 : Int) ^ n.val ∧ (2 : Int) ^ n.val ≤ 1073741824 := by decide +kernel
  exact h ⟨b.toNat, by omega⟩
end
section
/-! ===== Tally, Curve and its kinds ===== -/
theorem mulB {x y X Y : Int} (hx : 0 ≤ x) (hy : 0 ≤ y) (hX : x ≤ X) (hY : y ≤ Y) : 0 ≤ x * y ∧ x * y ≤ X * Y :=
  ⟨Int.mul_nonneg hx hy, Int.mul_le_mul hX hY hy (Int.le_trans hx hX)⟩
theorem divB {x y : Int} (hx : 0 ≤ x) (hy : 0 < y) : 0 ≤ x / y ∧ x / y ≤ x := ⟨Int.ediv_nonneg hx (by omega), Int.ediv_le_self _ hx⟩
theorem modB {x y : Int} (hy : 0 < y) : 0 ≤ x % y ∧ x % y < y := ⟨Int.emod_nonneg _ (by omega), Int.emod_lt_of_pos _ hy⟩
set_option maxRecDepth 100000 in
set_option maxHeartbeats 4000000 in
theorem k_X8_mark {G : aG} {d : Nat} {h : aH} {t mk : Nat} {g : Nat → Int} {b : Int} (ht : h t = some (eO 7 [vA mk])) (hm : h mk = some (eI 5 g)) (hb0 : 0 ≤ b) (hb : b < 5) (hg : okI (g b.toNat + 1)) : MC G mX8_mark d 0 0 [vA t, vI b] h (Voi (hset h mk (eI 5 (va_up g b.toNat (g b.toNat + 1))))) := by
  refine MC.of (by decide) (Nat.le_of_ble_eq_true rfl) (fun ok okh => ?_)
  show EX G mX8_mark d 0 0 _ 0 [(0, vA t), (1, vI b)] [] h 0 0
  refine x_iload_n 1 dX8_mark_0 rfl rfl ?_
  refine x_if_lt 23 dX8_mark_1 (by decide) (fun c_1 => (by exfalso; omega)) (fun c_1 => ?_)
  refine x_iload_n 1 dX8_mark_4 rfl rfl ?_
  refine x_aload_n 0 dX8_mark_5 rfl rfl ?_
  refine x_get 0 dX8_mark_6 fl_X8_9 ht rfl ?_
  refine x_alenI dX8_mark_9 hm (by omega) ?_
  refine x_icmp_ge 23 dX8_mark_10 (by decide) (fun c_10 => (by exfalso; omega)) (fun c_10 => ?_)
  refine x_aload_n 0 dX8_mark_13 rfl rfl ?_
  refine x_get 0 dX8_mark_14 fl_X8_9 ht rfl ?_
  refine x_iload_n 1 dX8_mark_17 rfl rfl ?_
  refine x_dup2 dX8_mark_18 rfl rfl ?_
  refine x_iaload dX8_mark_19 hm (by omega) (by omega) ?_
  refine x_iconst dX8_mark_20 (okI_c rfl) ?_
  refine x_iadd dX8_mark_21 hg ?_
  refine x_iastore dX8_mark_22 hm (by omega) (by omega) ?_
  exact x_return dX8_mark_23 rfl (by decide) (by decide) ⟨rfl, rfl⟩
set_option maxRecDepth 100000 in
set_option maxHeartbeats 4000000 in
theorem k_X8_marks {G : aG} {d : Nat} {h : aH} {t mk : Nat} {g : Nat → Int} {b : Int} (ht : h t = some (eO 7 [vA mk])) (hm : h mk = some (eI 5 g)) (hb0 : 0 ≤ b) (hb : b < 5) : MC G mX8_marks d 0 0 [vA t, vI b] h (Ret (vI (g b.toNat)) h) := by
  refine MC.of (by decide) (Nat.le_of_ble_eq_true rfl) (fun ok okh => ?_)
  show EX G mX8_marks d 0 0 _ 0 [(0, vA t), (1, vI b)] [] h 0 0
  refine x_iload_n 1 dX8_marks_0 rfl rfl ?_
  refine x_if_lt 13 dX8_marks_1 (by decide) (fun c_1 => (by exfalso; omega)) (fun c_1 => ?_)
  refine x_iload_n 1 dX8_marks_4 rfl rfl ?_
  refine x_aload_n 0 dX8_marks_5 rfl rfl ?_
  refine x_get 0 dX8_marks_6 fl_X8_9 ht rfl ?_
  refine x_alenI dX8_marks_9 hm (by omega) ?_
  refine x_icmp_lt 17 dX8_marks_10 (by decide) (fun c_10 => ?_) (fun c_10 => (by exfalso; omega))
  refine x_aload_n 0 dX8_marks_17 rfl rfl ?_
  refine x_get 0 dX8_marks_18 fl_X8_9 ht rfl ?_
  refine x_iload_n 1 dX8_marks_21 rfl rfl ?_
  refine x_iaload dX8_marks_22 hm (by omega) (by omega) ?_
  exact x_ireturn dX8_marks_23 rfl (by decide) (by decide) ⟨rfl, rfl⟩
set_option maxRecDepth 100000 in
set_option maxHeartbeats 4000000 in
theorem k_X1_amount {G : aG} {d : Nat} {h : aH} {c ci a : Nat} {T D C ld : Int} {am : Nat → Int} (hcv : CvAt h c ci a T D C am ld) (hok : CvOk T D C am) {t : Int} (ht0 : 0 ≤ t) : MC G mX1_amount d 0 0 [vA c, vI t] h (Ret (vJ (cval T D C am t)) h) := by
  obtain ⟨hT0, hT2, hD0, hD6, hC0, hC1, hA, hM, hW⟩ := id hok
  refine MC.of (by decide) (Nat.le_of_ble_eq_true rfl) (fun ok okh => ?_)
  show EX G mX1_amount d 0 0 _ 0 [(0, vA c), (1, vI t)] [] h 0 0
  have okt : okI t := ok (vI t) (by simp)
  unfold okI at okt
  refine x_iload_n 1 dX1_amount_0 rfl rfl ?_
  refine x_if_lt 12 dX1_amount_1 (by decide) (fun c_1 => (by exfalso; omega)) (fun c_1 => ?_)
  refine x_aload_n 0 dX1_amount_4 rfl rfl ?_
  refine x_get 1 dX1_amount_5 (fl_X1_15 _ hcv.2.2) hcv.1 rfl ?_
  refine x_iconst dX1_amount_8 (okI_c rfl) ?_
  refine x_icmp_ge 14 dX1_amount_9 (by decide) (fun c_9 => ?_) (fun c_9 => (by exfalso; omega))
  refine x_iload_n 1 dX1_amount_14 rfl rfl ?_
  refine x_aload_n 0 dX1_amount_15 rfl rfl ?_
  refine x_get 3 dX1_amount_16 (fl_X1_21 _ hcv.2.2) hcv.1 rfl ?_
  refine x_alenJ dX1_amount_19 hcv.2.1 (by omega) ?_
  refine x_icmp_ge 30 dX1_amount_20 (by decide) (fun c_20 => ?_) (fun c_20 => ?_)
  · refine x_iload_n 1 dX1_amount_30 rfl rfl ?_
    refine x_aload_n 0 dX1_amount_31 rfl rfl ?_
    refine x_get 0 dX1_amount_32 (fl_X1_9 _ hcv.2.2) hcv.1 rfl ?_
    refine x_isub dX1_amount_35 (by unfold okI; omega) ?_
    refine x_nmI (fun x1 e_x1 => ?_)
    refine x_istore_n (L' := [(2, vI x1), (0, vA c), (1, vI t)]) dX1_amount_36 rfl (Nat.le_of_ble_eq_true rfl) rfl ?_
    refine x_aload_n 1 dX1_amount_37 rfl rfl ?_
    refine x_get 0 dX1_amount_38 (fl_X1_9 _ hcv.2.2) hcv.1 rfl ?_
    refine x_iload_n 0 dX1_amount_41 rfl rfl ?_
    refine x_aload_n 1 dX1_amount_42 rfl rfl ?_
    refine x_get 1 dX1_amount_43 (fl_X1_15 _ hcv.2.2) hcv.1 rfl ?_
    
    refine x_irem dX1_amount_46 (by omega) (by omega) ?_
    have hmb := modB (x := x1) (show 0 < D by omega)
    refine x_iadd dX1_amount_47 (by unfold okI; omega) ?_
    refine x_nmI (fun x2 e_x2 => ?_)
    refine x_istore_n (L' := [(3, vI x2), (2, vI x1), (0, vA c), (1, vI t)]) dX1_amount_48 rfl (Nat.le_of_ble_eq_true rfl) rfl ?_
    refine x_iload_n 0 dX1_amount_49 rfl rfl ?_
    refine x_if_lt 62 dX1_amount_50 (by decide) (fun c_50 => (by exfalso; omega)) (fun c_50 => ?_)
    refine x_iload_n 0 dX1_amount_53 rfl rfl ?_
    refine x_aload_n 2 dX1_amount_54 rfl rfl ?_
    refine x_get 3 dX1_amount_55 (fl_X1_21 _ hcv.2.2) hcv.1 rfl ?_
    refine x_alenJ dX1_amount_58 hcv.2.1 (by omega) ?_
    refine x_icmp_lt 64 dX1_amount_59 (by decide) (fun c_59 => ?_) (fun c_59 => (by exfalso; omega))
    refine x_aload_n 2 dX1_amount_64 rfl rfl ?_
    refine x_get 3 dX1_amount_65 (fl_X1_21 _ hcv.2.2) hcv.1 rfl ?_
    refine x_iload_n 0 dX1_amount_68 rfl rfl ?_
    refine x_laload dX1_amount_69 hcv.2.1 (by omega) (by omega) ?_
    refine x_iload_n 1 dX1_amount_70 rfl rfl ?_
    refine x_aload_n 2 dX1_amount_71 rfl rfl ?_
    refine x_get 1 dX1_amount_72 (fl_X1_15 _ hcv.2.2) hcv.1 rfl ?_
    refine x_idiv dX1_amount_75 (by omega) (by omega) ?_
    refine x_i2l dX1_amount_76 ?_
    refine x_aload_n 2 dX1_amount_77 rfl rfl ?_
    refine x_get 2 dX1_amount_78 (fl_X1_18 _ hcv.2.2) hcv.1 rfl ?_
    refine x_i2l dX1_amount_81 ?_
    have hqc := divB (x := x1) (show 0 ≤ x1 by omega) (show 0 < D by omega)
    have hmu := mulB (x := x1 / D) (y := C) (X := 2147483647) (Y := 1000000000) hqc.1 hC0 (by omega) hC1
    refine x_lmul dX1_amount_82 (by unfold okJ; omega) ?_
    have hqb := divB (x := x1) (show 0 ≤ x1 by omega) (show 0 < D by omega)
    have hq2 := hA x2 (by omega) (by omega)
    refine x_ladd dX1_amount_83 (by unfold okJ; omega) ?_
    exact x_lreturn dX1_amount_84 rfl (by decide) (by decide) (retJ (by rw [cval, if_neg (by omega), e_x2, e_x1]))
  · refine x_aload_n 0 dX1_amount_23 rfl rfl ?_
    refine x_get 3 dX1_amount_24 (fl_X1_21 _ hcv.2.2) hcv.1 rfl ?_
    refine x_iload_n 1 dX1_amount_27 rfl rfl ?_
    refine x_laload dX1_amount_28 hcv.2.1 (by omega) (by omega) ?_
    exact x_lreturn dX1_amount_29 rfl (by decide) (by decide) (retJ (by rw [cval, if_pos (by omega)]))
set_option maxRecDepth 100000 in
set_option maxHeartbeats 4000000 in
theorem k_X1_gainIn {G : aG} {d : Nat} {h : aH} {c ci a : Nat} {T D C ld : Int} {am : Nat → Int} (hcv : CvAt h c ci a T D C am ld) (hok : CvOk T D C am) {p : Int} (hp0 : 0 ≤ p) (hp : p ≤ 1000) : MC G mX1_gainIn d 0 0 [vA c, vI p] h (Ret (vJ (C * (p / D))) h) := by
  obtain ⟨hT0, hT2, hD0, hD6, hC0, hC1, hA, hM, hW⟩ := id hok
  refine MC.of (by decide) (Nat.le_of_ble_eq_true rfl) (fun ok okh => ?_)
  show EX G mX1_gainIn d 0 0 _ 0 [(0, vA c), (1, vI p)] [] h 0 0
  refine x_aload_n 0 dX1_gainIn_0 rfl rfl ?_
  refine x_get 1 dX1_gainIn_1 (fl_X1_15 _ hcv.2.2) hcv.1 rfl ?_
  refine x_iconst dX1_gainIn_4 (okI_c rfl) ?_
  refine x_icmp_ge 12 dX1_gainIn_5 (by decide) (fun c_5 => ?_) (fun c_5 => (by exfalso; omega))
  refine x_aload_n 0 dX1_gainIn_12 rfl rfl ?_
  refine x_get 2 dX1_gainIn_13 (fl_X1_18 _ hcv.2.2) hcv.1 rfl ?_
  refine x_i2l dX1_gainIn_16 ?_
  refine x_iload_n 1 dX1_gainIn_17 rfl rfl ?_
  refine x_aload_n 0 dX1_gainIn_18 rfl rfl ?_
  refine x_get 1 dX1_gainIn_19 (fl_X1_15 _ hcv.2.2) hcv.1 rfl ?_
  refine x_idiv dX1_gainIn_22 (by omega) (by omega) ?_
  refine x_i2l dX1_gainIn_23 ?_
  have hqb := divB (x := p) hp0 (show 0 < D by omega)
  have hmu := mulB (x := C) (y := p / D) (X := 1000000000) (Y := 1000) hC0 hqb.1 hC1 (by omega)
  refine x_lmul dX1_gainIn_24 (by unfold okJ; omega) ?_
  exact x_lreturn dX1_gainIn_25 rfl (by decide) (by decide) ⟨rfl, rfl⟩
/-- a divisor that no greater one of the numbers is, is the greatest -/
theorem gcd_of {g s d : Int} (hg : 0 ≤ g) (hd : 1 ≤ d) (hds : d ≤ s) (h1 : g % d = 0) (h2 : s % d = 0) (hmax : ∀ e : Int, d < e → e ≤ s → ¬ (g % e = 0 ∧ s % e = 0)) : d = ((Int.gcd g s : Nat) : Int) := by
  have hdvd : d ∣ ((Int.gcd g s : Nat) : Int) := Int.dvd_coe_gcd (Int.dvd_of_emod_eq_zero h1) (Int.dvd_of_emod_eq_zero h2)
  have hpos : 0 < Int.gcd g s := Int.gcd_pos_of_ne_zero_right _ (by omega)
  have hle : d ≤ ((Int.gcd g s : Nat) : Int) := Int.le_of_dvd (by omega) hdvd
  have hgs : ((Int.gcd g s : Nat) : Int) ≤ s := Int.le_of_dvd (by omega) (Int.gcd_dvd_right g s)
  rcases Int.lt_or_eq_of_le hle with q | q
  · exact absurd ⟨Int.emod_eq_zero_of_dvd (Int.gcd_dvd_left g s), Int.emod_eq_zero_of_dvd (Int.gcd_dvd_right g s)⟩ (hmax _ q hgs)
  · exact q
set_option maxRecDepth 100000 in
set_option maxHeartbeats 4000000 in
theorem k_X1_shared {G : aG} {d : Nat} {h : aH} {c ci a : Nat} {T D C ld : Int} {am : Nat → Int} (hcv : CvAt h c ci a T D C am ld) (hok : CvOk T D C am) : MC G mX1_sharedByGainAndStep d 0 0 [vA c] h (Ret (vI ((Int.gcd C D : Nat) : Int)) h) := by
  obtain ⟨hT0, hT2, hD0, hD6, hC0, hC1, hA, hM, hW⟩ := id hok
  refine MC.of (by decide) (Nat.le_of_ble_eq_true rfl) (fun ok okh => ?_)
  show EX G mX1_sharedByGainAndStep d 0 0 _ 0 [(0, vA c)] [] h 0 0
  refine x_aload_n 0 dX1_sharedByGainAndStep_0 rfl rfl ?_
  refine x_get 1 dX1_sharedByGainAndStep_1 (fl_X1_15 _ hcv.2.2) hcv.1 rfl ?_
  refine x_istore_n (L' := [(1, vI D), (0, vA c)]) dX1_sharedByGainAndStep_4 rfl (Nat.le_of_ble_eq_true rfl) rfl ?_
  have loop_5 : ∀ (k_5 : Nat) (e : Int) , (e).toNat < k_5 → 1 ≤ e → e ≤ D → (∀ z : Int, e < z → z ≤ D → ¬ (C % z = 0 ∧ D % z = 0)) → EX G mX1_sharedByGainAndStep d 0 0 (Ret (vI ((Int.gcd C D : Nat) : Int)) h) 5 [(0, vA c), (1, vI e)] [] h 0 0 := by
    intro k_5
    induction k_5 with
    | zero => intro e hm; exact absurd hm (Nat.not_lt_zero _)
    | succ k_5 ih_5 =>
      intro e hm_5 he0 heD hmx
      refine x_iload_n 1 dX1_sharedByGainAndStep_5 rfl rfl ?_
      refine x_iconst dX1_sharedByGainAndStep_6 (okI_c rfl) ?_
      refine x_icmp_le 36 dX1_sharedByGainAndStep_7 (by decide) (fun c_7 => ?_) (fun c_7 => ?_)
      · refine x_iconst dX1_sharedByGainAndStep_36 (okI_c rfl) ?_
        exact x_ireturn dX1_sharedByGainAndStep_37 rfl (by decide) (by decide) (retI (gcd_of hC0 (Int.le_refl 1) hD0 (Int.emod_one _) (Int.emod_one _) (fun z q1 q2 => hmx z (by omega) q2)))
      · refine x_aload_n 0 dX1_sharedByGainAndStep_10 rfl rfl ?_
        refine x_get 2 dX1_sharedByGainAndStep_11 (fl_X1_18 _ hcv.2.2) hcv.1 rfl ?_
        refine x_iload_n 1 dX1_sharedByGainAndStep_14 rfl rfl ?_
        refine x_irem dX1_sharedByGainAndStep_15 (by omega) (by omega) ?_
        refine x_if_ne 30 dX1_sharedByGainAndStep_16 (by decide) (fun c_16 => ?_) (fun c_16 => ?_)
        · refine x_iinc 1 (L' := [(1, vI (e + (-1))), (0, vA c)]) dX1_sharedByGainAndStep_30 rfl (by unfold okI; omega) (Nat.le_of_ble_eq_true rfl) rfl ?_
          refine x_goto 5 dX1_sharedByGainAndStep_33 (by decide) ?_
          exact EX.pick [1, 0] rfl (ih_5 (e + (-1))  (by omega) (by omega) (by omega) (fun z q1 q2 q3 => by rcases Int.lt_or_eq_of_le (show e ≤ z by omega) with q | q; exact hmx z q q2 q3; subst q; omega))
        · refine x_aload_n 0 dX1_sharedByGainAndStep_19 rfl rfl ?_
          refine x_get 1 dX1_sharedByGainAndStep_20 (fl_X1_15 _ hcv.2.2) hcv.1 rfl ?_
          refine x_iload_n 1 dX1_sharedByGainAndStep_23 rfl rfl ?_
          refine x_irem dX1_sharedByGainAndStep_24 (by omega) (by omega) ?_
          refine x_if_ne 30 dX1_sharedByGainAndStep_25 (by decide) (fun c_25 => ?_) (fun c_25 => ?_)
          · refine x_iinc 1 (L' := [(1, vI (e + (-1))), (0, vA c)]) dX1_sharedByGainAndStep_30 rfl (by unfold okI; omega) (Nat.le_of_ble_eq_true rfl) rfl ?_
            refine x_goto 5 dX1_sharedByGainAndStep_33 (by decide) ?_
            exact EX.pick [1, 0] rfl (ih_5 (e + (-1))  (by omega) (by omega) (by omega) (fun z q1 q2 q3 => by rcases Int.lt_or_eq_of_le (show e ≤ z by omega) with q | q; exact hmx z q q2 q3; subst q; omega))
          · refine x_iload_n 1 dX1_sharedByGainAndStep_28 rfl rfl ?_
            exact x_ireturn dX1_sharedByGainAndStep_29 rfl (by decide) (by decide) (retI (gcd_of hC0 he0 heD c_16 c_25 hmx))
  exact EX.pick [1, 0] rfl (loop_5 (((D : Int)).toNat + 1) D  (Nat.lt_succ_self _) (by omega) (by omega) (fun z q1 q2 => absurd q1 (by omega)))
theorem hset_hset (h : aH) (a : Nat) (e f : aE) : hset (hset h a e) a f = hset h a f := by
  funext b; by_cases hb : b = a <;> simp [hset, hb]
theorem neOI {h : aH} {x y ci n : Nat} {fs : List aV} {g : Nat → Int} (hx : h x = some (eO ci fs)) (hy : h y = some (eI n g)) : x ≠ y := by
  rintro rfl; rw [hx] at hy; cases hy
theorem neOJ {h : aH} {x y ci n : Nat} {fs : List aV} {g : Nat → Int} (hx : h x = some (eO ci fs)) (hy : h y = some (eJ n g)) : x ≠ y := by
  rintro rfl; rw [hx] at hy; cases hy
theorem neOR {h : aH} {x y ci n : Nat} {fs : List aV} {g : Nat → Option Nat} (hx : h x = some (eO ci fs)) (hy : h y = some (eR n g)) : x ≠ y := by
  rintro rfl; rw [hx] at hy; cases hy
theorem neJI {h : aH} {x y m n : Nat} {f g : Nat → Int} (hx : h x = some (eJ m f)) (hy : h y = some (eI n g)) : x ≠ y := by
  rintro rfl; rw [hx] at hy; cases hy
theorem neJR {h : aH} {x y m n : Nat} {f : Nat → Int} {g : Nat → Option Nat} (hx : h x = some (eJ m f)) (hy : h y = some (eR n g)) : x ≠ y := by
  rintro rfl; rw [hx] at hy; cases hy
theorem neIR {h : aH} {x y m n : Nat} {f : Nat → Int} {g : Nat → Option Nat} (hx : h x = some (eI m f)) (hy : h y = some (eR n g)) : x ≠ y := by
  rintro rfl; rw [hx] at hy; cases hy
theorem neOO {h : aH} {x y ci cj : Nat} {fs gs : List aV} (hx : h x = some (eO ci fs)) (hy : h y = some (eO cj gs)) (hc : ci ≠ cj) : x ≠ y := by
  rintro rfl; rw [hx] at hy; cases hy; exact hc rfl
theorem CvAt.keep {h : aH} {c ci a b : Nat} {T D C ld : Int} {am : Nat → Int} {e : aE} (k : CvAt h c ci a T D C am ld) (h1 : c ≠ b) (h2 : a ≠ b) : CvAt (hset h b e) c ci a T D C am ld :=
  ⟨(hset_ne _ _ h1).trans k.1, (hset_ne _ _ h2).trans k.2.1, k.2.2⟩
theorem CvAt.keepI {h : aH} {c ci a b n : Nat} {T D C ld : Int} {am : Nat → Int} {g : Nat → Int} {e : aE} (k : CvAt h c ci a T D C am ld) (hb : h b = some (eI n g)) : CvAt (hset h b e) c ci a T D C am ld :=
  k.keep (neOI k.1 hb) (neJI k.2.1 hb)
set_option maxRecDepth 100000 in
set_option maxHeartbeats 4000000 in
theorem k_X1_first {G : aG} {d : Nat} (hd : 1 ≤ d) {h : aH} {c ci a : Nat} {T D C ld : Int} {am : Nat → Int} (hcv : CvAt h c ci a T D C am ld) (hok : CvOk T D C am) {v last : Int} (hv : okJ v) (hl0 : 0 ≤ last) (hl1 : last ≤ 1000001000) : MC G mX1_firstReaching d 0 0 [vA c, vJ v, vI last] h (Ret (vI (firstS (cval T D C am) v last)) h) := by
  refine MC.of (by decide) (Nat.le_of_ble_eq_true rfl) (fun ok okh => ?_)
  show EX G mX1_firstReaching d 0 0 _ 0 [(0, vA c), (1, vJ v), (3, vI last)] [] h 0 0
  refine x_iconst dX1_firstReaching_0 (okI_c rfl) ?_
  refine x_istore (L' := [(4, vI ((-1))), (0, vA c), (1, vJ v), (3, vI last)]) dX1_firstReaching_1 (Nat.le_of_ble_eq_true rfl) rfl ?_
  refine x_bipush dX1_firstReaching_3 (okI_c rfl) (by decide +kernel) ?_
  refine x_istore (L' := [(5, vI 30), (4, vI ((-1))), (0, vA c), (1, vJ v), (3, vI last)]) dX1_firstReaching_5 (Nat.le_of_ble_eq_true rfl) rfl ?_
  have loop_7 : ∀ (k_7 : Nat) (u : Int) (b : Int) , (b + 1).toNat < k_7 → -1 ≤ u → u ≤ last → -1 ≤ b → b ≤ 30 → (∀ t : Int, 0 ≤ t → t ≤ u → cval T D C am t < v) → (∀ t : Int, u + 2 ^ (b + 1).toNat ≤ t → t ≤ last → v ≤ cval T D C am t) → EX G mX1_firstReaching d 0 0 (Ret (vI (firstS (cval T D C am) v last)) h) 7 [(0, vA c), (1, vJ v), (3, vI last), (4, vI u), (5, vI b)] [] h 0 0 := by
    intro k_7
    induction k_7 with
    | zero => intro u b hm; exact absurd hm (Nat.not_lt_zero _)
    | succ k_7 ih_7 =>
      intro u b hm_7 hu0 hul hb0 hb1 hlo hhi
      refine x_iload 4 dX1_firstReaching_7 rfl ?_
      
      refine x_if_lt 48 dX1_firstReaching_9 (by decide) (fun c_9 => ?_) (fun c_9 => ?_)
      · have hps : (2 : Int) ^ (b + 1).toNat = 1 := by rw [show (b + 1).toNat = 0 by omega]; rfl
        refine x_iload 3 dX1_firstReaching_48 rfl ?_
        refine x_iload_n 2 dX1_firstReaching_50 rfl rfl ?_
        refine x_icmp_ge 61 dX1_firstReaching_51 (by decide) (fun c_51 => ?_) (fun c_51 => ?_)
        · refine x_iconst dX1_firstReaching_61 (okI_c rfl) ?_
          exact x_ireturn dX1_firstReaching_62 rfl (by decide) (by decide) (retI (First.eq (Or.inl ⟨rfl, fun t q1 q2 => hlo t q1 (by omega)⟩)))
        · refine x_iload 3 dX1_firstReaching_54 rfl ?_
          refine x_iconst dX1_firstReaching_56 (okI_c rfl) ?_
          refine x_iadd dX1_firstReaching_57 (by unfold okI; omega) ?_
          refine x_goto 62 dX1_firstReaching_58 (by decide) ?_
          exact x_ireturn dX1_firstReaching_62 rfl (by decide) (by decide) (retI (First.eq (Or.inr ⟨by omega, by omega, hhi _ (by omega) (by omega), fun t q1 q2 => hlo t q1 (by omega)⟩)))
      · refine x_iload 3 dX1_firstReaching_12 rfl ?_
        refine x_iconst dX1_firstReaching_14 (okI_c rfl) ?_
        refine x_iload 4 dX1_firstReaching_15 rfl ?_
        refine x_ishl (v := 2 ^ b.toNat) dX1_firstReaching_17 (by have := pow_le (b := b) (by omega) hb1; unfold okI; omega) (shl1 (by omega) hb1) ?_
        have hpw := pow_le (b := b) (by omega) hb1
        have hps := pow_s (b := b) (by omega)
        refine x_iadd dX1_firstReaching_18 (by unfold okI; omega) ?_
        refine x_nmI (fun x1 e_x1 => ?_)
        refine x_istore (L' := [(6, vI x1), (0, vA c), (1, vJ v), (3, vI last), (4, vI u), (5, vI b)]) dX1_firstReaching_19 (Nat.le_of_ble_eq_true rfl) rfl ?_
        refine x_iload 0 dX1_firstReaching_21 rfl ?_
        refine x_iload_n 3 dX1_firstReaching_23 rfl rfl ?_
        refine x_icmp_gt 42 dX1_firstReaching_24 (by decide) (fun c_24 => ?_) (fun c_24 => ?_)
        · refine x_iinc 5 (L' := [(5, vI (b + (-1))), (6, vI x1), (0, vA c), (1, vJ v), (3, vI last), (4, vI u)]) dX1_firstReaching_42 rfl (by unfold okI; omega) (Nat.le_of_ble_eq_true rfl) rfl ?_
          refine x_goto 7 dX1_firstReaching_45 (by decide) ?_
          exact EX.pick [2, 3, 4, 5, 0] rfl (ih_7 u (b + (-1))  (by omega) (by omega) (by omega) (by omega) (by omega) (fun t q1 q2 => hlo t q1 q2) (fun t q1 q2 => by rw [show b + -1 + 1 = b by omega] at q1; first | omega | (have := cval_mono hok (show 0 ≤ x1 by omega) (show x1 ≤ t by omega); omega)))
        · refine x_aload_n 1 dX1_firstReaching_27 rfl rfl ?_
          refine x_iload 0 dX1_firstReaching_28 rfl ?_
          refine x_callU [vI x1] dX1_firstReaching_30 (ku_X1_31 _ hcv.2.2) rfl rfl hcv.1 (by omega) (Nat.le_of_ble_eq_true rfl) (by omega) (by omega) (k_X1_amount hcv hok (t := x1) (by omega)) (after_ret ?_)
          refine x_lload_n 2 dX1_firstReaching_33 rfl rfl ?_
          refine x_lc_ge 42 dX1_firstReaching_34 dX1_firstReaching_35 (by decide) (fun c_34 => ?_) (fun c_34 => ?_)
          · refine x_iinc 5 (L' := [(5, vI (b + (-1))), (6, vI x1), (0, vA c), (1, vJ v), (3, vI last), (4, vI u)]) dX1_firstReaching_42 rfl (by unfold okI; omega) (Nat.le_of_ble_eq_true rfl) rfl ?_
            refine x_goto 7 dX1_firstReaching_45 (by decide) ?_
            exact EX.pick [2, 3, 4, 5, 0] rfl (ih_7 u (b + (-1))  (by omega) (by omega) (by omega) (by omega) (by omega) (fun t q1 q2 => hlo t q1 q2) (fun t q1 q2 => by rw [show b + -1 + 1 = b by omega] at q1; first | omega | (have := cval_mono hok (show 0 ≤ x1 by omega) (show x1 ≤ t by omega); omega)))
          · refine x_iload 0 dX1_firstReaching_38 rfl ?_
            refine x_istore (L' := [(4, vI x1), (6, vI x1), (0, vA c), (1, vJ v), (3, vI last), (5, vI b)]) dX1_firstReaching_40 (Nat.le_of_ble_eq_true rfl) rfl ?_
            refine x_iinc 5 (L' := [(5, vI (b + (-1))), (4, vI x1), (6, vI x1), (0, vA c), (1, vJ v), (3, vI last)]) dX1_firstReaching_42 rfl (by unfold okI; omega) (Nat.le_of_ble_eq_true rfl) rfl ?_
            refine x_goto 7 dX1_firstReaching_45 (by decide) ?_
            exact EX.pick [3, 4, 5, 1, 0] rfl (ih_7 x1 (b + (-1))  (by omega) (by omega) (by omega) (by omega) (by omega) (fun t q1 q2 => by by_cases q : t ≤ u; exact hlo t q1 q; have := cval_mono hok q1 (show t ≤ x1 by omega); omega) (fun t q1 q2 => hhi t (by rw [show b + -1 + 1 = b by omega] at q1; omega) q2))
  exact EX.pick [2, 3, 4, 1, 0] rfl (loop_7 (((30 : Int) + 1).toNat + 1) (-1) 30  (Nat.lt_succ_self _) (by omega) (by omega) (by omega) (by omega) (fun t q1 q2 => by omega) (fun t q1 q2 => by have : ((2 : Int) ^ (30 + 1 : Int).toNat) = 2147483648  := (by decide); omega))
set_option maxRecDepth 100000 in
set_option maxHeartbeats 4000000 in
theorem k_X1_isClosed {G : aG} {d : Nat} (hd : 1 ≤ d) {h : aH} {c ci a : Nat} {T D C ld : Int} {am : Nat → Int} (hcv : CvAt h c ci a T D C am ld) (hok : CvOk T D C am) : MC G mX1_isClosed d 0 0 [vA c] h (Ret (vI (b2i (Closed T D C am))) h) := by
  obtain ⟨hT0, hT2, hD0, hD6, hC0, hC1, hA, hM, hW⟩ := id hok
  refine MC.of (by decide) (Nat.le_of_ble_eq_true rfl) (fun ok okh => ?_)
  show EX G mX1_isClosed d 0 0 _ 0 [(0, vA c)] [] h 0 0
  refine x_aload_n 0 dX1_isClosed_0 rfl rfl ?_
  refine x_iconst dX1_isClosed_1 (okI_c rfl) ?_
  refine x_callU [vI 0] dX1_isClosed_2 (ku_X1_31 _ hcv.2.2) rfl rfl hcv.1 (by omega) (Nat.le_of_ble_eq_true rfl) (by omega) (by omega) (k_X1_amount hcv hok (t := 0) (by omega)) (after_ret ?_)
  refine x_lconst (x := 0) dX1_isClosed_5 (okJ_c rfl) rfl ?_
  refine x_lc_eq 12 dX1_isClosed_6 dX1_isClosed_7 (by decide) (fun c_6 => ?_) (fun c_6 => ?_)
  · refine x_iconst dX1_isClosed_12 (okI_c rfl) ?_
    refine x_istore_n (L' := [(1, vI 1), (0, vA c)]) dX1_isClosed_13 rfl (Nat.le_of_ble_eq_true rfl) rfl ?_
    have loop_14 : ∀ (k_14 : Nat) (s : Int) , (T + D - s).toNat < k_14 → 1 ≤ s → s ≤ T + D → (∀ x y : Int, 1 ≤ x → x < s → x ≤ y → y < T + D → cval T D C am (x + y) ≤ am x.toNat + am y.toNat) → EX G mX1_isClosed d 0 0 (Ret (vI (b2i (Closed T D C am))) h) 14 [(0, vA c), (1, vI s)] [] h 0 0 := by
      intro k_14
      induction k_14 with
      | zero => intro s hm; exact absurd hm (Nat.not_lt_zero _)
      | succ k_14 ih_14 =>
        intro s hm_14 hs0 hs1 hall
        refine x_iload_n 1 dX1_isClosed_14 rfl rfl ?_
        refine x_aload_n 0 dX1_isClosed_15 rfl rfl ?_
        refine x_get 3 dX1_isClosed_16 (fl_X1_21 _ hcv.2.2) hcv.1 rfl ?_
        refine x_alenJ dX1_isClosed_19 hcv.2.1 (by omega) ?_
        refine x_icmp_ge 72 dX1_isClosed_20 (by decide) (fun c_20 => ?_) (fun c_20 => ?_)
        · refine x_iconst dX1_isClosed_72 (okI_c rfl) ?_
          exact x_zreturn dX1_isClosed_73 rfl (Or.inr rfl) (by decide) (by decide) (retI (b2i_t ⟨by rw [cval_lt (by omega)] at c_6; exact c_6, fun x y q1 q2 q3 => hall x y q1 (by omega) q2 q3⟩).symm)
        · refine x_iload_n 1 dX1_isClosed_23 rfl rfl ?_
          refine x_istore_n (L' := [(2, vI s), (0, vA c), (1, vI s)]) dX1_isClosed_24 rfl (Nat.le_of_ble_eq_true rfl) rfl ?_
          have loop_25 : ∀ (k_25 : Nat) (t : Int) , (T + D - t).toNat < k_25 → s ≤ t → t ≤ T + D → (∀ y : Int, s ≤ y → y < t → cval T D C am (s + y) ≤ am s.toNat + am y.toNat) → EX G mX1_isClosed d 0 0 (Ret (vI (b2i (Closed T D C am))) h) 25 [(0, vA c), (1, vI s), (2, vI t)] [] h 0 0 := by
            intro k_25
            induction k_25 with
            | zero => intro t hm; exact absurd hm (Nat.not_lt_zero _)
            | succ k_25 ih_25 =>
              intro t hm_25 ht0 ht1 hin
              refine x_iload_n 2 dX1_isClosed_25 rfl rfl ?_
              refine x_aload_n 0 dX1_isClosed_26 rfl rfl ?_
              refine x_get 3 dX1_isClosed_27 (fl_X1_21 _ hcv.2.2) hcv.1 rfl ?_
              refine x_alenJ dX1_isClosed_30 hcv.2.1 (by omega) ?_
              refine x_icmp_ge 66 dX1_isClosed_31 (by decide) (fun c_31 => ?_) (fun c_31 => ?_)
              · refine x_iinc 1 (L' := [(1, vI (s + 1)), (0, vA c), (2, vI t)]) dX1_isClosed_66 rfl (by unfold okI; omega) (Nat.le_of_ble_eq_true rfl) rfl ?_
                refine x_goto 14 dX1_isClosed_69 (by decide) ?_
                exact EX.pick [1, 0] rfl (ih_14 (s + 1)  (by omega) (by omega) (by omega) (fun x y q1 q2 q3 q4 => by by_cases q : x < s; exact hall x y q1 q q3 q4; have e : x = s := (by omega); subst e; exact hin y q3 (by omega)))
              · refine x_aload_n 0 dX1_isClosed_34 rfl rfl ?_
                refine x_iload_n 1 dX1_isClosed_35 rfl rfl ?_
                refine x_iload_n 2 dX1_isClosed_36 rfl rfl ?_
                refine x_iadd dX1_isClosed_37 (by unfold okI; omega) ?_
                refine x_callU [vI (s + t)] dX1_isClosed_38 (ku_X1_31 _ hcv.2.2) rfl rfl hcv.1 (by omega) (Nat.le_of_ble_eq_true rfl) (by omega) (by omega) (k_X1_amount hcv hok (t := s + t) (by omega)) (after_ret ?_)
                refine x_aload_n 0 dX1_isClosed_41 rfl rfl ?_
                refine x_get 3 dX1_isClosed_42 (fl_X1_21 _ hcv.2.2) hcv.1 rfl ?_
                refine x_iload_n 1 dX1_isClosed_45 rfl rfl ?_
                refine x_laload dX1_isClosed_46 hcv.2.1 (by omega) (by omega) ?_
                refine x_aload_n 0 dX1_isClosed_47 rfl rfl ?_
                refine x_get 3 dX1_isClosed_48 (fl_X1_21 _ hcv.2.2) hcv.1 rfl ?_
                refine x_iload_n 2 dX1_isClosed_51 rfl rfl ?_
                refine x_laload dX1_isClosed_52 hcv.2.1 (by omega) (by omega) ?_
                have hb1 := hA s (by omega) (by omega)
                have hb2 := hA t (by omega) (by omega)
                refine x_ladd dX1_isClosed_53 (by unfold okJ; omega) ?_
                refine x_lc_le 60 dX1_isClosed_54 dX1_isClosed_55 (by decide) (fun c_54 => ?_) (fun c_54 => ?_)
                · refine x_iinc 2 (L' := [(2, vI (t + 1)), (0, vA c), (1, vI s)]) dX1_isClosed_60 rfl (by unfold okI; omega) (Nat.le_of_ble_eq_true rfl) rfl ?_
                  refine x_goto 25 dX1_isClosed_63 (by decide) ?_
                  exact EX.pick [1, 2, 0] rfl (ih_25 (t + 1)  (by omega) (by omega) (by omega) (fun y q1 q2 => by by_cases q : y < t; exact hin y q1 q; have e : y = t := (by omega); subst e; exact c_54))
                · refine x_iconst dX1_isClosed_58 (okI_c rfl) ?_
                  exact x_zreturn dX1_isClosed_59 rfl (Or.inl rfl) (by decide) (by decide) (retI (b2i_f (fun q => by have := q.2 s t hs0 ht0 (by omega); omega)).symm)
          exact EX.pick [1, 2, 0] rfl (loop_25 ((T + D - (s : Int)).toNat + 1) s  (Nat.lt_succ_self _) (by omega) (by omega) (fun y q1 q2 => by omega))
    exact EX.pick [1, 0] rfl (loop_14 ((T + D - (1 : Int)).toNat + 1) 1  (Nat.lt_succ_self _) (by omega) (by omega) (fun x y q1 q2 => by omega))
  · refine x_iconst dX1_isClosed_10 (okI_c rfl) ?_
    exact x_zreturn dX1_isClosed_11 rfl (Or.inl rfl) (by decide) (by decide) (retI (b2i_f (fun q => by have := q.1; rw [cval_lt (by omega)] at c_6; exact c_6 this)).symm)
def cvF0 (ci : Nat) : List aV := vI 0 :: vI 0 :: vI 0 :: vN :: (if ci = 0 then [vJ 0] else [])
set_option maxRecDepth 100000 in
set_option maxHeartbeats 4000000 in
theorem k_X1_init {G : aG} {d : Nat} (hd : 1 ≤ d) {h : aH} {c ci a : Nat} {T D C : Int} (hc : h c = some (eO ci (cvF0 ci))) (hci : ci ∈ [0, 1, 2, 4, 6]) : MC G mX1_init d 0 0 [vA c, vI T, vI D, vI C, vA a] h (Voi (hset h c (eO ci (cvF ci T D C a 0)))) := by
  refine MC.of (by decide) (Nat.le_of_ble_eq_true rfl) (fun ok okh => ?_)
  show EX G mX1_init d 0 0 _ 0 [(0, vA c), (1, vI T), (2, vI D), (3, vI C), (4, vA a)] [] h 0 0
  refine x_aload_n 0 dX1_init_0 rfl rfl ?_
  refine x_objInit dX1_init_1 ko_X1_3 (by omega) (Nat.le_of_ble_eq_true rfl) ?_
  refine x_aload_n 0 dX1_init_4 rfl rfl ?_
  refine x_iload_n 1 dX1_init_5 rfl rfl ?_
  refine x_putF 0 dX1_init_6 rfl (pu_X1_9 _ hci) hc rfl rfl (Nat.le_of_ble_eq_true rfl) ?_
  refine x_aload_n 0 dX1_init_9 rfl rfl ?_
  refine x_iload_n 2 dX1_init_10 rfl rfl ?_
  refine x_putF 1 dX1_init_11 rfl (pu_X1_15 _ hci) (hset_eq _ _ _) rfl rfl (Nat.le_of_ble_eq_true rfl) ?_
  refine x_aload_n 0 dX1_init_14 rfl rfl ?_
  refine x_iload_n 3 dX1_init_15 rfl rfl ?_
  refine x_putF 2 dX1_init_16 rfl (pu_X1_18 _ hci) (hset_eq _ _ _) rfl rfl (Nat.le_of_ble_eq_true rfl) ?_
  refine x_aload_n 0 dX1_init_19 rfl rfl ?_
  refine x_aload 4 dX1_init_20 rfl ?_
  refine x_putF 3 dX1_init_22 rfl (pu_X1_21 _ hci) (hset_eq _ _ _) rfl rfl (Nat.le_of_ble_eq_true rfl) ?_
  exact x_return dX1_init_25 rfl (by decide) (by decide) ⟨rfl, by simp only [hset_hset]; rfl⟩
set_option maxRecDepth 100000 in
set_option maxHeartbeats 4000000 in
theorem k_X2_init {G : aG} {d : Nat} (hd : 2 ≤ d) {h : aH} {c a : Nat} {T D C : Int}  (hc : h c = some (eO 2 (cvF0 2))) : MC G mX2_init d 0 0 [vA c, vI T, vI D, vI C, vA a] h (Voi (hset h c (eO 2 (cvF 2 T D C a 0)))) := by
  refine MC.of (by decide) (Nat.le_of_ble_eq_true rfl) (fun ok okh => ?_)
  show EX G mX2_init d 0 0 _ 0 [(0, vA c), (1, vI T), (2, vI D), (3, vI C), (4, vA a)] [] h 0 0
  refine x_aload_n 0 dX2_init_0 rfl rfl ?_
  refine x_iload_n 1 dX2_init_1 rfl rfl ?_
  refine x_iload_n 2 dX2_init_2 rfl rfl ?_
  refine x_iload_n 3 dX2_init_3 rfl rfl ?_
  refine x_aload 4 dX2_init_4 rfl ?_
  refine x_callI [vI T, vI D, vI C, vA a] dX2_init_6 ki_X2_3 rfl rfl (by omega) (Nat.le_of_ble_eq_true rfl) (by omega) (by omega) (k_X1_init (d := 1) (by omega) hc (by decide)) (after_void ?_)
  exact x_return dX2_init_9 rfl (by decide) (by decide) ⟨rfl, rfl⟩
set_option maxRecDepth 100000 in
set_option maxHeartbeats 4000000 in
theorem k_X5_init {G : aG} {d : Nat} (hd : 2 ≤ d) {h : aH} {c a : Nat} {T D C : Int} {ci : Nat} (hci : ci ∈ [0, 1, 2, 4, 6]) (hc : h c = some (eO ci (cvF0 ci))) : MC G mX5_init d 0 0 [vA c, vI T, vI D, vI C, vA a] h (Voi (hset h c (eO ci (cvF ci T D C a 0)))) := by
  refine MC.of (by decide) (Nat.le_of_ble_eq_true rfl) (fun ok okh => ?_)
  show EX G mX5_init d 0 0 _ 0 [(0, vA c), (1, vI T), (2, vI D), (3, vI C), (4, vA a)] [] h 0 0
  refine x_aload_n 0 dX5_init_0 rfl rfl ?_
  refine x_iload_n 1 dX5_init_1 rfl rfl ?_
  refine x_iload_n 2 dX5_init_2 rfl rfl ?_
  refine x_iload_n 3 dX5_init_3 rfl rfl ?_
  refine x_aload 4 dX5_init_4 rfl ?_
  refine x_callI [vI T, vI D, vI C, vA a] dX5_init_6 ki_X5_3 rfl rfl (by omega) (Nat.le_of_ble_eq_true rfl) (by omega) (by omega) (k_X1_init (d := 1) (by omega) hc hci) (after_void ?_)
  exact x_return dX5_init_9 rfl (by decide) (by decide) ⟨rfl, rfl⟩
set_option maxRecDepth 100000 in
set_option maxHeartbeats 4000000 in
theorem k_X7_init {G : aG} {d : Nat} (hd : 2 ≤ d) {h : aH} {c a : Nat} {T D C : Int}  (hc : h c = some (eO 6 (cvF0 6))) : MC G mX7_init d 0 0 [vA c, vI T, vI D, vI C, vA a] h (Voi (hset h c (eO 6 (cvF 6 T D C a 0)))) := by
  refine MC.of (by decide) (Nat.le_of_ble_eq_true rfl) (fun ok okh => ?_)
  show EX G mX7_init d 0 0 _ 0 [(0, vA c), (1, vI T), (2, vI D), (3, vI C), (4, vA a)] [] h 0 0
  refine x_aload_n 0 dX7_init_0 rfl rfl ?_
  refine x_iload_n 1 dX7_init_1 rfl rfl ?_
  refine x_iload_n 2 dX7_init_2 rfl rfl ?_
  refine x_iload_n 3 dX7_init_3 rfl rfl ?_
  refine x_aload 4 dX7_init_4 rfl ?_
  refine x_callI [vI T, vI D, vI C, vA a] dX7_init_6 ki_X7_3 rfl rfl (by omega) (Nat.le_of_ble_eq_true rfl) (by omega) (by omega) (k_X1_init (d := 1) (by omega) hc (by decide)) (after_void ?_)
  exact x_return dX7_init_9 rfl (by decide) (by decide) ⟨rfl, rfl⟩
set_option maxRecDepth 100000 in
set_option maxHeartbeats 4000000 in
theorem k_X0_init {G : aG} {d : Nat} (hd : 3 ≤ d) {h : aH} {c a : Nat} {T D C ld : Int} (hc : h c = some (eO 0 (cvF0 0))) : MC G mX0_init d 0 0 [vA c, vI T, vI D, vI C, vA a, vJ ld] h (Voi (hset h c (eO 0 (cvF 0 T D C a ld)))) := by
  refine MC.of (by decide) (Nat.le_of_ble_eq_true rfl) (fun ok okh => ?_)
  show EX G mX0_init d 0 0 _ 0 [(0, vA c), (1, vI T), (2, vI D), (3, vI C), (4, vA a), (5, vJ ld)] [] h 0 0
  refine x_aload_n 0 dX0_init_0 rfl rfl ?_
  refine x_iload_n 1 dX0_init_1 rfl rfl ?_
  refine x_iload_n 2 dX0_init_2 rfl rfl ?_
  refine x_iload_n 3 dX0_init_3 rfl rfl ?_
  refine x_aload 4 dX0_init_4 rfl ?_
  refine x_callI [vI T, vI D, vI C, vA a] dX0_init_6 ki_X0_3 rfl rfl (by omega) (Nat.le_of_ble_eq_true rfl) (by omega) (by omega) (k_X5_init (d := 2) (by omega) (by decide) hc) (after_void ?_)
  refine x_aload_n 0 dX0_init_9 rfl rfl ?_
  refine x_lload 5 dX0_init_10 rfl ?_
  refine x_putF 4 dX0_init_12 rfl pu_X0_9 (hset_eq _ _ _) rfl rfl (Nat.le_of_ble_eq_true rfl) ?_
  exact x_return dX0_init_15 rfl (by decide) (by decide) ⟨rfl, by rw [hset_hset]; rfl⟩
def mk1 (g : Nat → Int) (b : Nat) : Nat → Int := va_up g b (g b + 1)
def okT (g : Nat → Int) : Prop := ∀ j, 0 ≤ g j ∧ g j ≤ 2000000000
theorem okT.up {g : Nat → Int} (h : okT g) (b : Nat) (hb : g b + 1 ≤ 2000000000) : okT (mk1 g b) := by
  intro j
  simp only [mk1, va_up]
  by_cases q : j = b
  · subst q; simp; have := h j; omega
  · simp [q]; exact h j
set_option maxRecDepth 100000 in
set_option maxHeartbeats 4000000 in
theorem k_X1_asked {G : aG} {d : Nat} (hd : 1 ≤ d) {h : aH} {tl mk : Nat} {g : Nat → Int} (ht : h tl = some (eO 7 [vA mk])) (hm : h mk = some (eI 5 g)) (hg : ∀ j, 0 ≤ g j ∧ g j ≤ 1000000) {c a : Nat} {T D C ld : Int} {am : Nat → Int} (hcv : CvAt h c 1 a T D C am ld) (hok : CvOk T D C am) {t : Int} (ht0 : 0 ≤ t) : MC G mX1_asked d 0 0 [vA c, vI t, vA tl] h (Ret (vJ (cval T D C am t)) (hset h mk (eI 5 (mk1 g 0)))) := by
  obtain ⟨hT0, hT2, hD0, hD6, hC0, hC1, hA, hM, hW⟩ := id hok
  refine MC.of (by decide) (Nat.le_of_ble_eq_true rfl) (fun ok okh => ?_)
  show EX G mX1_asked d 0 0 _ 0 [(0, vA c), (1, vI t), (2, vA tl)] [] h 0 0
  refine x_aload_n 2 dX1_asked_0 rfl rfl ?_
  refine x_iconst dX1_asked_1 (okI_c rfl) ?_
  refine x_callV [vI 0] dX1_asked_2 kv_X1_25 rfl rfl ht (by omega) (Nat.le_of_ble_eq_true rfl) (by omega) (by omega) (k_X8_mark (d := 0) (b := 0) ht hm (by omega) (by omega) (by have := hg (0 : Int).toNat; unfold okI; omega)) (after_void ?_)
  refine x_aload_n 0 dX1_asked_5 rfl rfl ?_
  refine x_iload_n 1 dX1_asked_6 rfl rfl ?_
  refine x_callU [vI t] dX1_asked_7 (ku_X1_31 _ (by decide)) rfl rfl ((hset_ne _ _ (neOI hcv.1 hm)).trans hcv.1) (by omega) (Nat.le_of_ble_eq_true rfl) (by omega) (by omega) (k_X1_amount (d := 0) (hcv.keepI hm) hok ht0) (after_ret ?_)
  exact x_lreturn dX1_asked_10 rfl (by decide) (by decide) ⟨rfl, rfl⟩
set_option maxRecDepth 100000 in
set_option maxHeartbeats 4000000 in
theorem k_X5_asked {G : aG} {d : Nat} (hd : 1 ≤ d) {h : aH} {tl mk : Nat} {g : Nat → Int} (ht : h tl = some (eO 7 [vA mk])) (hm : h mk = some (eI 5 g)) (hg : ∀ j, 0 ≤ g j ∧ g j ≤ 2000000) {ci : Nat} (hci : ci ∈ [0, 4]) {c a : Nat} {T D C ld : Int} {am : Nat → Int} (hcv : CvAt h c ci a T D C am ld) (hok : CvOk T D C am) {t : Int} (ht0 : 0 ≤ t) : MC G mX5_asked d 0 0 [vA c, vI t, vA tl] h (Ret (vJ (C * t)) (hset h mk (eI 5 (mk1 g 2)))) := by
  obtain ⟨hT0, hT2, hD0, hD6, hC0, hC1, hA, hM, hW⟩ := id hok
  refine MC.of (by decide) (Nat.le_of_ble_eq_true rfl) (fun ok okh => ?_)
  show EX G mX5_asked d 0 0 _ 0 [(0, vA c), (1, vI t), (2, vA tl)] [] h 0 0
  have okt : okI t := ok (vI t) (by simp)
  unfold okI at okt
  refine x_aload_n 2 dX5_asked_0 rfl rfl ?_
  refine x_iconst dX5_asked_1 (okI_c rfl) ?_
  refine x_callV [vI 2] dX5_asked_2 kv_X5_9 rfl rfl ht (by omega) (Nat.le_of_ble_eq_true rfl) (by omega) (by omega) (k_X8_mark (d := 0) (b := 2) ht hm (by omega) (by omega) (by have := hg (2 : Int).toNat; unfold okI; omega)) (after_void ?_)
  refine x_aload_n 0 dX5_asked_5 rfl rfl ?_
  refine x_get 2 dX5_asked_6 (fl_X5_15 _ hci) ((hset_ne _ _ (neOI hcv.1 hm)).trans hcv.1) rfl ?_
  refine x_i2l dX5_asked_9 ?_
  refine x_iload_n 1 dX5_asked_10 rfl rfl ?_
  refine x_i2l dX5_asked_11 ?_
  have hmu := mulB (x := C) (y := t) (X := 1000000000) (Y := 2147483647) hC0 (by omega) hC1 (by omega)
  refine x_lmul dX5_asked_12 (by unfold okJ; omega) ?_
  exact x_lreturn dX5_asked_13 rfl (by decide) (by decide) ⟨rfl, rfl⟩
set_option maxRecDepth 100000 in
set_option maxHeartbeats 4000000 in
theorem k_X0_asked {G : aG} {d : Nat} (hd : 2 ≤ d) {h : aH} {tl mk : Nat} {g : Nat → Int} (ht : h tl = some (eO 7 [vA mk])) (hm : h mk = some (eI 5 g)) (hg : ∀ j, 0 ≤ g j ∧ g j ≤ 1000000) {c a : Nat} {T D C ld : Int} {am : Nat → Int} (hcv : CvAt h c 0 a T D C am ld) (hok : CvOk T D C am) {t : Int} (ht0 : 0 ≤ t) (hl0 : 0 ≤ ld) (hl1 : ld ≤ 1000000000000) : MC G mX0_asked d 0 0 [vA c, vI t, vA tl] h (Ret (vJ (if t = 0 then 0 else C * t + ld)) (hset h mk (eI 5 (mk1 (mk1 g 1) 2)))) := by
  obtain ⟨hT0, hT2, hD0, hD6, hC0, hC1, hA, hM, hW⟩ := id hok
  refine MC.of (by decide) (Nat.le_of_ble_eq_true rfl) (fun ok okh => ?_)
  show EX G mX0_asked d 0 0 _ 0 [(0, vA c), (1, vI t), (2, vA tl)] [] h 0 0
  have okt : okI t := ok (vI t) (by simp)
  unfold okI at okt
  refine x_aload_n 2 dX0_asked_0 rfl rfl ?_
  refine x_iconst dX0_asked_1 (okI_c rfl) ?_
  refine x_callV [vI 1] dX0_asked_2 kv_X0_15 rfl rfl ht (by omega) (Nat.le_of_ble_eq_true rfl) (by omega) (by omega) (k_X8_mark (d := 0) (b := 1) ht hm (by omega) (by omega) (by have := hg (1 : Int).toNat; unfold okI; omega)) (after_void ?_)
  refine x_aload_n 0 dX0_asked_5 rfl rfl ?_
  refine x_iload_n 1 dX0_asked_6 rfl rfl ?_
  refine x_aload_n 2 dX0_asked_7 rfl rfl ?_
  refine x_callSU [vI t, vA tl] dX0_asked_8 kz_X0_21 rfl rfl ((hset_ne _ _ (neOI hcv.1 hm)).trans hcv.1) (by omega) (Nat.le_of_ble_eq_true rfl) (by omega) (by omega) (k_X5_asked (d := 1) (by omega) ((hset_ne _ _ (neOI ht hm)).trans ht) (hset_eq h mk (eI 5 (mk1 g 1))) (fun j => by have q1 := hg j; have q2 := hg 1; simp only [mk1, va_up]; split <;> omega) (by decide) (hcv.keepI hm) hok ht0) (after_ret ?_)
  refine x_ash (hset_hset _ _ _ _) ?_
  refine x_nmJ (fun x1 e_x1 => ?_)
  refine x_lstore_n (L' := [(3, vJ x1), (0, vA c), (1, vI t), (2, vA tl)]) dX0_asked_11 rfl (Nat.le_of_ble_eq_true rfl) rfl ?_
  refine x_iload_n 2 dX0_asked_12 rfl rfl ?_
  refine x_if_ne 20 dX0_asked_13 (by decide) (fun c_13 => ?_) (fun c_13 => ?_)
  · refine x_lload_n 0 dX0_asked_20 rfl rfl ?_
    refine x_aload_n 1 dX0_asked_21 rfl rfl ?_
    refine x_get 4 dX0_asked_22 fl_X0_9 ((hset_ne _ _ (neOI hcv.1 hm)).trans hcv.1) rfl ?_
    have hmu := mulB (x := C) (y := t) (X := 1000000000) (Y := 2147483647) hC0 (by omega) hC1 (by omega)
    refine x_ladd dX0_asked_25 (by unfold okJ; omega) ?_
    exact x_lreturn dX0_asked_26 rfl (by decide) (by decide) (retJ (by rw [if_neg c_13, e_x1]))
  · refine x_lconst (x := 0) dX0_asked_16 (okJ_c rfl) rfl ?_
    refine x_goto 26 dX0_asked_17 (by decide) ?_
    exact x_lreturn dX0_asked_26 rfl (by decide) (by decide) (retJ (by rw [if_pos c_13]))
set_option maxRecDepth 100000 in
set_option maxHeartbeats 4000000 in
theorem k_X2_asked {G : aG} {d : Nat} (hd : 1 ≤ d) {h : aH} {tl mk : Nat} {g : Nat → Int} (ht : h tl = some (eO 7 [vA mk])) (hm : h mk = some (eI 5 g)) (hg : ∀ j, 0 ≤ g j ∧ g j ≤ 1000000) {c a : Nat} {T D C ld : Int} {am : Nat → Int} (hcv : CvAt h c 2 a T D C am ld) (hok : CvOk T D C am) {t : Int} (ht0 : 0 ≤ t) : MC G mX2_asked d 0 0 [vA c, vI t, vA tl] h (Ret (vJ (if t ≤ T then 0 else C * (t - T))) (hset h mk (eI 5 (mk1 g 3)))) := by
  obtain ⟨hT0, hT2, hD0, hD6, hC0, hC1, hA, hM, hW⟩ := id hok
  refine MC.of (by decide) (Nat.le_of_ble_eq_true rfl) (fun ok okh => ?_)
  show EX G mX2_asked d 0 0 _ 0 [(0, vA c), (1, vI t), (2, vA tl)] [] h 0 0
  have okt : okI t := ok (vI t) (by simp)
  unfold okI at okt
  refine x_aload_n 2 dX2_asked_0 rfl rfl ?_
  refine x_iconst dX2_asked_1 (okI_c rfl) ?_
  refine x_callV [vI 3] dX2_asked_2 kv_X2_9 rfl rfl ht (by omega) (Nat.le_of_ble_eq_true rfl) (by omega) (by omega) (k_X8_mark (d := 0) (b := 3) ht hm (by omega) (by omega) (by have := hg (3 : Int).toNat; unfold okI; omega)) (after_void ?_)
  refine x_iload_n 1 dX2_asked_5 rfl rfl ?_
  refine x_aload_n 0 dX2_asked_6 rfl rfl ?_
  refine x_get 0 dX2_asked_7 fl_X2_15 ((hset_ne _ _ (neOI hcv.1 hm)).trans hcv.1) rfl ?_
  refine x_icmp_gt 17 dX2_asked_10 (by decide) (fun c_10 => ?_) (fun c_10 => ?_)
  · refine x_aload_n 0 dX2_asked_17 rfl rfl ?_
    refine x_get 2 dX2_asked_18 fl_X2_21 ((hset_ne _ _ (neOI hcv.1 hm)).trans hcv.1) rfl ?_
    refine x_i2l dX2_asked_21 ?_
    refine x_iload_n 1 dX2_asked_22 rfl rfl ?_
    refine x_aload_n 0 dX2_asked_23 rfl rfl ?_
    refine x_get 0 dX2_asked_24 fl_X2_15 ((hset_ne _ _ (neOI hcv.1 hm)).trans hcv.1) rfl ?_
    refine x_isub dX2_asked_27 (by unfold okI; omega) ?_
    refine x_i2l dX2_asked_28 ?_
    have hmu := mulB (x := C) (y := t - T) (X := 1000000000) (Y := 2147483647) hC0 (by omega) hC1 (by omega)
    refine x_lmul dX2_asked_29 (by unfold okJ; omega) ?_
    exact x_lreturn dX2_asked_30 rfl (by decide) (by decide) (retJ (by rw [if_neg (by omega)]))
  · refine x_lconst (x := 0) dX2_asked_13 (okJ_c rfl) rfl ?_
    refine x_goto 30 dX2_asked_14 (by decide) ?_
    exact x_lreturn dX2_asked_30 rfl (by decide) (by decide) (retJ (by rw [if_pos c_10]))
set_option maxRecDepth 100000 in
set_option maxHeartbeats 4000000 in
theorem k_X7_asked {G : aG} {d : Nat} (hd : 1 ≤ d) {h : aH} {tl mk : Nat} {g : Nat → Int} (ht : h tl = some (eO 7 [vA mk])) (hm : h mk = some (eI 5 g)) (hg : ∀ j, 0 ≤ g j ∧ g j ≤ 1000000) {c a : Nat} {T D C ld : Int} {am : Nat → Int} (hcv : CvAt h c 6 a T D C am ld) (hok : CvOk T D C am) {t : Int} (ht0 : 0 ≤ t) : MC G mX7_asked d 0 0 [vA c, vI t, vA tl] h (Ret (vJ (C * (t / D))) (hset h mk (eI 5 (mk1 g 4)))) := by
  obtain ⟨hT0, hT2, hD0, hD6, hC0, hC1, hA, hM, hW⟩ := id hok
  refine MC.of (by decide) (Nat.le_of_ble_eq_true rfl) (fun ok okh => ?_)
  show EX G mX7_asked d 0 0 _ 0 [(0, vA c), (1, vI t), (2, vA tl)] [] h 0 0
  have okt : okI t := ok (vI t) (by simp)
  unfold okI at okt
  refine x_aload_n 2 dX7_asked_0 rfl rfl ?_
  refine x_iconst dX7_asked_1 (okI_c rfl) ?_
  refine x_callV [vI 4] dX7_asked_2 kv_X7_9 rfl rfl ht (by omega) (Nat.le_of_ble_eq_true rfl) (by omega) (by omega) (k_X8_mark (d := 0) (b := 4) ht hm (by omega) (by omega) (by have := hg (4 : Int).toNat; unfold okI; omega)) (after_void ?_)
  refine x_aload_n 0 dX7_asked_5 rfl rfl ?_
  refine x_get 1 dX7_asked_6 fl_X7_15 ((hset_ne _ _ (neOI hcv.1 hm)).trans hcv.1) rfl ?_
  refine x_iconst dX7_asked_9 (okI_c rfl) ?_
  refine x_icmp_ge 17 dX7_asked_10 (by decide) (fun c_10 => ?_) (fun c_10 => (by exfalso; omega))
  refine x_aload_n 0 dX7_asked_17 rfl rfl ?_
  refine x_get 2 dX7_asked_18 fl_X7_21 ((hset_ne _ _ (neOI hcv.1 hm)).trans hcv.1) rfl ?_
  refine x_i2l dX7_asked_21 ?_
  refine x_iload_n 1 dX7_asked_22 rfl rfl ?_
  refine x_aload_n 0 dX7_asked_23 rfl rfl ?_
  refine x_get 1 dX7_asked_24 fl_X7_15 ((hset_ne _ _ (neOI hcv.1 hm)).trans hcv.1) rfl ?_
  refine x_idiv dX7_asked_27 (by omega) (by omega) ?_
  refine x_i2l dX7_asked_28 ?_
  have hqb := divB (x := t) ht0 (show 0 < D by omega)
  have hmu := mulB (x := C) (y := t / D) (X := 1000000000) (Y := 2147483647) hC0 (by omega) hC1 (by omega)
  refine x_lmul dX7_asked_29 (by unfold okJ; omega) ?_
  exact x_lreturn dX7_asked_30 rfl (by decide) (by decide) ⟨rfl, rfl⟩
set_option maxRecDepth 100000 in
set_option maxHeartbeats 4000000 in
theorem k_X1_kind {G : aG} {d : Nat} {h : aH} {c : Nat} : MC G mX1_kind d 0 0 [vA c] h (Ret (vI 0) h) := by
  refine MC.of (by decide) (Nat.le_of_ble_eq_true rfl) (fun ok okh => ?_)
  show EX G mX1_kind d 0 0 _ 0 [(0, vA c)] [] h 0 0
  refine x_iconst dX1_kind_0 (okI_c rfl) ?_
  exact x_ireturn dX1_kind_1 rfl (by decide) (by decide) ⟨rfl, rfl⟩
set_option maxRecDepth 100000 in
set_option maxHeartbeats 4000000 in
theorem k_X0_kind {G : aG} {d : Nat} {h : aH} {c : Nat} : MC G mX0_kind d 0 0 [vA c] h (Ret (vI 1) h) := by
  refine MC.of (by decide) (Nat.le_of_ble_eq_true rfl) (fun ok okh => ?_)
  show EX G mX0_kind d 0 0 _ 0 [(0, vA c)] [] h 0 0
  refine x_iconst dX0_kind_0 (okI_c rfl) ?_
  exact x_ireturn dX0_kind_1 rfl (by decide) (by decide) ⟨rfl, rfl⟩
set_option maxRecDepth 100000 in
set_option maxHeartbeats 4000000 in
theorem k_X5_kind {G : aG} {d : Nat} {h : aH} {c : Nat} : MC G mX5_kind d 0 0 [vA c] h (Ret (vI 2) h) := by
  refine MC.of (by decide) (Nat.le_of_ble_eq_true rfl) (fun ok okh => ?_)
  show EX G mX5_kind d 0 0 _ 0 [(0, vA c)] [] h 0 0
  refine x_iconst dX5_kind_0 (okI_c rfl) ?_
  exact x_ireturn dX5_kind_1 rfl (by decide) (by decide) ⟨rfl, rfl⟩
set_option maxRecDepth 100000 in
set_option maxHeartbeats 4000000 in
theorem k_X2_kind {G : aG} {d : Nat} {h : aH} {c : Nat} : MC G mX2_kind d 0 0 [vA c] h (Ret (vI 3) h) := by
  refine MC.of (by decide) (Nat.le_of_ble_eq_true rfl) (fun ok okh => ?_)
  show EX G mX2_kind d 0 0 _ 0 [(0, vA c)] [] h 0 0
  refine x_iconst dX2_kind_0 (okI_c rfl) ?_
  exact x_ireturn dX2_kind_1 rfl (by decide) (by decide) ⟨rfl, rfl⟩
set_option maxRecDepth 100000 in
set_option maxHeartbeats 4000000 in
theorem k_X7_kind {G : aG} {d : Nat} {h : aH} {c : Nat} : MC G mX7_kind d 0 0 [vA c] h (Ret (vI 4) h) := by
  refine MC.of (by decide) (Nat.le_of_ble_eq_true rfl) (fun ok okh => ?_)
  show EX G mX7_kind d 0 0 _ 0 [(0, vA c)] [] h 0 0
  refine x_iconst dX7_kind_0 (okI_c rfl) ?_
  exact x_ireturn dX7_kind_1 rfl (by decide) (by decide) ⟨rfl, rfl⟩
end
section
/-! ===== Pairs ===== -/
/-- the least common multiple, or -1 where it is above 60 -/
def lcmS (a b : Int) : Int := if ((Int.lcm a b : Nat) : Int) ≤ 60 then ((Int.lcm a b : Nat) : Int) else -1
theorem lcm_at {a b t : Int} (ha : 1 ≤ a) (hb : 1 ≤ b) (ht0 : 1 ≤ t) (ht : t ≤ 60) (h1 : a ∣ t) (h2 : t % b = 0) (hmin : ∀ m : Int, 0 < m → m < t → a ∣ m → ¬ b ∣ m) : t = lcmS a b := by
  have hd : ((Int.lcm a b : Nat) : Int) ∣ t := Int.coe_lcm_dvd h1 (Int.dvd_of_emod_eq_zero h2)
  have hle : ((Int.lcm a b : Nat) : Int) ≤ t := Int.le_of_dvd (by omega) hd
  have hpos : 0 < Int.lcm a b := Nat.pos_of_ne_zero (Int.lcm_ne_zero (by omega) (by omega))
  have e : ((Int.lcm a b : Nat) : Int) = t := by
    rcases Int.lt_or_eq_of_le hle with q | q
    · exact absurd (Int.dvd_lcm_right a b) (hmin _ (by omega) q (Int.dvd_lcm_left a b))
    · exact q
  rw [lcmS, if_pos (by omega), e]
theorem lcm_none {a b t : Int} (ha : 1 ≤ a) (hb : 1 ≤ b) (ht : 60 < t) (hmin : ∀ m : Int, 0 < m → m < t → a ∣ m → ¬ b ∣ m) : -1 = lcmS a b := by
  have hpos : 0 < Int.lcm a b := Nat.pos_of_ne_zero (Int.lcm_ne_zero (by omega) (by omega))
  rw [lcmS, if_neg]
  intro q
  exact absurd (Int.dvd_lcm_right a b) (hmin _ (by omega) (by omega) (Int.dvd_lcm_left a b))
theorem mult_next {a t m : Int} (ha : 1 ≤ a) (h : a ∣ t) (hm : a ∣ m) (h1 : t < m) : t + a ≤ m := by
  have h3 : a ∣ m - t := Int.dvd_sub hm h
  have := Int.le_of_dvd (by omega) h3
  omega
/-- 0 where two are alike, 1 where not -/
def dif (F G : Int → Int) (t : Int) : Int := if F t = G t then 0 else 1
noncomputable def unlikeS (F G : Int → Int) (last : Int) : Int := firstS (dif F G) 1 last
noncomputable def spanS (F G : Int → Int) (t : Int) : Int := firstS G (F t) (t + 1000000000)
noncomputable def waitS (F G : Int → Int) (n : Int) : Int := @ite Int (∀ t : Int, 0 ≤ t → t < n → spanS F G t ≠ -1) (Classical.propDecidable _) (sup0 (fun t => spanS F G t - t) n.toNat) (-1)
theorem waitS_t {F G : Int → Int} {n : Int} (h : ∀ t : Int, 0 ≤ t → t < n → spanS F G t ≠ -1) : waitS F G n = sup0 (fun t => spanS F G t - t) n.toNat := by rw [waitS, if_pos h]
theorem waitS_f {F G : Int → Int} {n t : Int} (h0 : 0 ≤ t) (h1 : t < n) (h : spanS F G t = -1) : waitS F G n = -1 := by rw [waitS, if_neg (fun q => q t h0 h1 h)]
theorem span_of {F G : Int → Int} {t x : Int} (h0 : 0 ≤ x) (h1 : x ≤ t + 1000000000) (hG : ∀ s u : Int, 0 ≤ s → s ≤ u → G s ≤ G u) (h : F t ≤ G x) : 0 ≤ spanS F G t ∧ spanS F G t ≤ x := by
  rcases firstS_spec G (F t) (t + 1000000000) with ⟨q1, q2⟩ | ⟨q1, q2, q3, q4⟩
  · have := q2 x h0 h1; omega
  · refine ⟨q1, ?_⟩
    rcases Int.lt_or_le x (spanS F G t) with q | q
    · have := q4 x h0 q; omega
    · exact q
theorem span_gt {F G : Int → Int} {t x : Int} (h0 : 0 ≤ x) (hG : ∀ s u : Int, 0 ≤ s → s ≤ u → G s ≤ G u) (h : G x < F t) (hs : spanS F G t ≠ -1) : x < spanS F G t ∧ spanS F G t ≤ t + 1000000000 := by
  rcases firstS_spec G (F t) (t + 1000000000) with ⟨q1, q2⟩ | ⟨q1, q2, q3, q4⟩
  · exact absurd q1 hs
  · refine ⟨?_, q2⟩
    rcases Int.lt_or_le x (spanS F G t) with q | q
    · exact q
    · have e : spanS F G t = firstS G (F t) (t + 1000000000) := rfl
      have := hG _ _ q1 (e ▸ q); omega
set_option maxRecDepth 100000 in
set_option maxHeartbeats 4000000 in
theorem k_X4_commonStep {G : aG} {d : Nat}  {h : aH} {c1 ci1 a1 : Nat} {T1 D1 C1 ld1 : Int} {am1 : Nat → Int} (hcv1 : CvAt h c1 ci1 a1 T1 D1 C1 am1 ld1) (hok1 : CvOk T1 D1 C1 am1) {c2 ci2 a2 : Nat} {T2 D2 C2 ld2 : Int} {am2 : Nat → Int} (hcv2 : CvAt h c2 ci2 a2 T2 D2 C2 am2 ld2) (hok2 : CvOk T2 D2 C2 am2) : MC G mX4_commonStep d 0 0 [vA c1, vA c2] h (Ret (vI (lcmS D1 D2)) h) := by
  obtain ⟨hT01, hT21, hD01, hD61, hC01, hC11, hA1, hM1, hW1⟩ := id hok1
  obtain ⟨hT02, hT22, hD02, hD62, hC02, hC12, hA2, hM2, hW2⟩ := id hok2
  refine MC.of (by decide) (Nat.le_of_ble_eq_true rfl) (fun ok okh => ?_)
  show EX G mX4_commonStep d 0 0 _ 0 [(0, vA c1), (1, vA c2)] [] h 0 0
  refine x_aload_n 0 dX4_commonStep_0 rfl rfl ?_
  refine x_get 1 dX4_commonStep_1 (fl_X4_9 _ hcv1.2.2) hcv1.1 rfl ?_
  refine x_iconst dX4_commonStep_4 (okI_c rfl) ?_
  refine x_icmp_lt 16 dX4_commonStep_5 (by decide) (fun c_5 => (by exfalso; omega)) (fun c_5 => ?_)
  refine x_aload_n 1 dX4_commonStep_8 rfl rfl ?_
  refine x_get 1 dX4_commonStep_9 (fl_X4_9 _ hcv2.2.2) hcv2.1 rfl ?_
  refine x_iconst dX4_commonStep_12 (okI_c rfl) ?_
  refine x_icmp_ge 18 dX4_commonStep_13 (by decide) (fun c_13 => ?_) (fun c_13 => (by exfalso; omega))
  refine x_aload_n 0 dX4_commonStep_18 rfl rfl ?_
  refine x_get 1 dX4_commonStep_19 (fl_X4_9 _ hcv1.2.2) hcv1.1 rfl ?_
  refine x_istore_n (L' := [(2, vI D1), (0, vA c1), (1, vA c2)]) dX4_commonStep_22 rfl (Nat.le_of_ble_eq_true rfl) rfl ?_
  have loop_23 : ∀ (k_23 : Nat) (t : Int) , (61 - t).toNat < k_23 → 1 ≤ t → t ≤ 60 + D1 → D1 ∣ t → (∀ m : Int, 0 < m → m < t → D1 ∣ m → ¬ D2 ∣ m) → EX G mX4_commonStep d 0 0 (Ret (vI (lcmS D1 D2)) h) 23 [(0, vA c1), (1, vA c2), (2, vI t)] [] h 0 0 := by
    intro k_23
    induction k_23 with
    | zero => intro t hm; exact absurd hm (Nat.not_lt_zero _)
    | succ k_23 ih_23 =>
      intro t hm_23 ht1 ht2 hdv hmin
      refine x_iload_n 2 dX4_commonStep_23 rfl rfl ?_
      refine x_bipush dX4_commonStep_24 (okI_c rfl) (by decide +kernel) ?_
      refine x_icmp_gt 50 dX4_commonStep_26 (by decide) (fun c_26 => ?_) (fun c_26 => ?_)
      · refine x_iconst dX4_commonStep_50 (okI_c rfl) ?_
        exact x_ireturn dX4_commonStep_51 rfl (by decide) (by decide) (retI (lcm_none hD01 hD02 c_26 hmin))
      · refine x_iload_n 2 dX4_commonStep_29 rfl rfl ?_
        refine x_aload_n 1 dX4_commonStep_30 rfl rfl ?_
        refine x_get 1 dX4_commonStep_31 (fl_X4_9 _ hcv2.2.2) hcv2.1 rfl ?_
        refine x_irem dX4_commonStep_34 (by omega) (by omega) ?_
        refine x_if_ne 40 dX4_commonStep_35 (by decide) (fun c_35 => ?_) (fun c_35 => ?_)
        · refine x_iload_n 2 dX4_commonStep_40 rfl rfl ?_
          refine x_aload_n 0 dX4_commonStep_41 rfl rfl ?_
          refine x_get 1 dX4_commonStep_42 (fl_X4_9 _ hcv1.2.2) hcv1.1 rfl ?_
          refine x_iadd dX4_commonStep_45 (by unfold okI; omega) ?_
          refine x_nmI (fun x1 e_x1 => ?_)
          refine x_istore_n (L' := [(2, vI x1), (0, vA c1), (1, vA c2)]) dX4_commonStep_46 rfl (Nat.le_of_ble_eq_true rfl) rfl ?_
          refine x_goto 23 dX4_commonStep_47 (by decide) ?_
          exact EX.pick [1, 2, 0] rfl (ih_23 x1  (by omega) (by omega) (by omega) (by rw [e_x1]; exact Int.dvd_add hdv (Int.dvd_refl _)) (fun m q1 q2 q3 q4 => by rcases Int.lt_trichotomy m t with q | q | q; exact hmin m q1 q q3 q4; exact c_35 (Int.emod_eq_zero_of_dvd (q ▸ q4)); exact absurd (mult_next hD01 hdv q3 q) (by omega)))
        · refine x_iload_n 2 dX4_commonStep_38 rfl rfl ?_
          exact x_ireturn dX4_commonStep_39 rfl (by decide) (by decide) (retI (lcm_at hD01 hD02 ht1 (by omega) hdv c_35 hmin))
  exact EX.pick [1, 2, 0] rfl (loop_23 ((61 - (D1 : Int)).toNat + 1) D1  (Nat.lt_succ_self _) (by omega) (by omega) (Int.dvd_refl _) (fun m q1 q2 q3 => absurd (Int.le_of_dvd q1 q3) (by omega)))
set_option maxRecDepth 100000 in
set_option maxHeartbeats 4000000 in
theorem k_X4_outruns {G : aG} {d : Nat} (hd : 1 ≤ d) {h : aH} {c1 ci1 a1 : Nat} {T1 D1 C1 ld1 : Int} {am1 : Nat → Int} (hcv1 : CvAt h c1 ci1 a1 T1 D1 C1 am1 ld1) (hok1 : CvOk T1 D1 C1 am1) {c2 ci2 a2 : Nat} {T2 D2 C2 ld2 : Int} {am2 : Nat → Int} (hcv2 : CvAt h c2 ci2 a2 T2 D2 C2 am2 ld2) (hok2 : CvOk T2 D2 C2 am2) {p : Int} (hp0 : 1 ≤ p) (hp : p ≤ 60) : MC G mX4_outruns d 0 0 [vA c1, vA c2, vI p] h (Ret (vI (b2i (C2 * (p / D2) < C1 * (p / D1)))) h) := by
  obtain ⟨hT01, hT21, hD01, hD61, hC01, hC11, hA1, hM1, hW1⟩ := id hok1
  obtain ⟨hT02, hT22, hD02, hD62, hC02, hC12, hA2, hM2, hW2⟩ := id hok2
  refine MC.of (by decide) (Nat.le_of_ble_eq_true rfl) (fun ok okh => ?_)
  show EX G mX4_outruns d 0 0 _ 0 [(0, vA c1), (1, vA c2), (2, vI p)] [] h 0 0
  refine x_aload_n 0 dX4_outruns_0 rfl rfl ?_
  refine x_iload_n 2 dX4_outruns_1 rfl rfl ?_
  refine x_callU [vI p] dX4_outruns_2 (ku_X4_15 _ hcv1.2.2) rfl rfl hcv1.1 (by omega) (Nat.le_of_ble_eq_true rfl) (by omega) (by omega) (k_X1_gainIn (d := 0) hcv1 hok1 (p := p) (by omega) (by omega)) (after_ret ?_)
  refine x_aload_n 1 dX4_outruns_5 rfl rfl ?_
  refine x_iload_n 2 dX4_outruns_6 rfl rfl ?_
  refine x_callU [vI p] dX4_outruns_7 (ku_X4_15 _ hcv2.2.2) rfl rfl hcv2.1 (by omega) (Nat.le_of_ble_eq_true rfl) (by omega) (by omega) (k_X1_gainIn (d := 0) hcv2 hok2 (p := p) (by omega) (by omega)) (after_ret ?_)
  refine x_lc_le 18 dX4_outruns_10 dX4_outruns_11 (by decide) (fun c_10 => ?_) (fun c_10 => ?_)
  · refine x_iconst dX4_outruns_18 (okI_c rfl) ?_
    exact x_zreturn dX4_outruns_19 rfl (by omega) (by decide) (by decide) (retI (b2i_f (by omega)).symm)
  · refine x_iconst dX4_outruns_14 (okI_c rfl) ?_
    refine x_goto 19 dX4_outruns_15 (by decide) ?_
    exact x_zreturn dX4_outruns_19 rfl (by omega) (by decide) (by decide) (retI (b2i_t c_10).symm)
set_option maxRecDepth 100000 in
set_option maxHeartbeats 4000000 in
theorem k_X4_settledSpan {G : aG} {d : Nat} (hd : 1 ≤ d) {h : aH} {c1 ci1 a1 : Nat} {T1 D1 C1 ld1 : Int} {am1 : Nat → Int} (hcv1 : CvAt h c1 ci1 a1 T1 D1 C1 am1 ld1) (hok1 : CvOk T1 D1 C1 am1) {c2 ci2 a2 : Nat} {T2 D2 C2 ld2 : Int} {am2 : Nat → Int} (hcv2 : CvAt h c2 ci2 a2 T2 D2 C2 am2 ld2) (hok2 : CvOk T2 D2 C2 am2) {p : Int} (hp0 : 1 ≤ p) (hp : p ≤ 60) : MC G mX4_settledSpan d 0 0 [vA c1, vA c2, vI p] h (Ret (vI (max T1 T2 + p)) h) := by
  obtain ⟨hT01, hT21, hD01, hD61, hC01, hC11, hA1, hM1, hW1⟩ := id hok1
  obtain ⟨hT02, hT22, hD02, hD62, hC02, hC12, hA2, hM2, hW2⟩ := id hok2
  refine MC.of (by decide) (Nat.le_of_ble_eq_true rfl) (fun ok okh => ?_)
  show EX G mX4_settledSpan d 0 0 _ 0 [(0, vA c1), (1, vA c2), (2, vI p)] [] h 0 0
  refine x_aload_n 0 dX4_settledSpan_0 rfl rfl ?_
  refine x_get 0 dX4_settledSpan_1 (fl_X4_19 _ hcv1.2.2) hcv1.1 rfl ?_
  refine x_aload_n 1 dX4_settledSpan_4 rfl rfl ?_
  refine x_get 0 dX4_settledSpan_5 (fl_X4_19 _ hcv2.2.2) hcv2.1 rfl ?_
  refine x_maxI dX4_settledSpan_8 km_X4_22 (by omega) (Nat.le_of_ble_eq_true rfl) (by omega) (by omega) ?_
  refine x_iload_n 2 dX4_settledSpan_11 rfl rfl ?_
  refine x_iadd dX4_settledSpan_12 (by unfold okI; omega) ?_
  exact x_ireturn dX4_settledSpan_13 rfl (by decide) (by decide) ⟨rfl, rfl⟩
set_option maxRecDepth 100000 in
set_option maxHeartbeats 4000000 in
theorem k_X4_firstUnlike {G : aG} {d : Nat} (hd : 2 ≤ d) {h : aH} {c1 ci1 a1 : Nat} {T1 D1 C1 ld1 : Int} {am1 : Nat → Int} (hcv1 : CvAt h c1 ci1 a1 T1 D1 C1 am1 ld1) (hok1 : CvOk T1 D1 C1 am1) {c2 ci2 a2 : Nat} {T2 D2 C2 ld2 : Int} {am2 : Nat → Int} (hcv2 : CvAt h c2 ci2 a2 T2 D2 C2 am2 ld2) (hok2 : CvOk T2 D2 C2 am2) {p : Int} (hp0 : 1 ≤ p) (hp : p ≤ 60) : MC G mX4_firstUnlike d 0 0 [vA c1, vA c2, vI p] h (Ret (vI (unlikeS (cval T1 D1 C1 am1) (cval T2 D2 C2 am2) (max T1 T2 + p))) h) := by
  obtain ⟨hT01, hT21, hD01, hD61, hC01, hC11, hA1, hM1, hW1⟩ := id hok1
  obtain ⟨hT02, hT22, hD02, hD62, hC02, hC12, hA2, hM2, hW2⟩ := id hok2
  refine MC.of (by decide) (Nat.le_of_ble_eq_true rfl) (fun ok okh => ?_)
  show EX G mX4_firstUnlike d 0 0 _ 0 [(0, vA c1), (1, vA c2), (2, vI p)] [] h 0 0
  refine x_aload_n 0 dX4_firstUnlike_0 rfl rfl ?_
  refine x_aload_n 1 dX4_firstUnlike_1 rfl rfl ?_
  refine x_iload_n 2 dX4_firstUnlike_2 rfl rfl ?_
  refine x_callS [vA c1, vA c2, vI p] dX4_firstUnlike_3 ks_X4_28 rfl rfl (by omega) (Nat.le_of_ble_eq_true rfl) (by omega) (by omega) (k_X4_settledSpan (d := 1) (by omega) hcv1 hok1 hcv2 hok2 hp0 hp) (after_ret ?_)
  refine x_nmI (fun x1 e_x1 => ?_)
  refine x_istore_n (L' := [(3, vI x1), (0, vA c1), (1, vA c2), (2, vI p)]) dX4_firstUnlike_6 rfl (Nat.le_of_ble_eq_true rfl) rfl ?_
  refine x_iconst dX4_firstUnlike_7 (okI_c rfl) ?_
  refine x_istore (L' := [(4, vI 0), (3, vI x1), (0, vA c1), (1, vA c2), (2, vI p)]) dX4_firstUnlike_8 (Nat.le_of_ble_eq_true rfl) rfl ?_
  have loop_10 : ∀ (k_10 : Nat) (t : Int) , (x1 + 1 - t).toNat < k_10 → 0 ≤ t → t ≤ x1 + 1 → (∀ y : Int, 0 ≤ y → y < t → (cval T1 D1 C1 am1) y = (cval T2 D2 C2 am2) y) → EX G mX4_firstUnlike d 0 0 (Ret (vI (unlikeS (cval T1 D1 C1 am1) (cval T2 D2 C2 am2) (max T1 T2 + p))) h) 10 [(0, vA c1), (1, vA c2), (2, vI p), (3, vI x1), (4, vI t)] [] h 0 0 := by
    intro k_10
    induction k_10 with
    | zero => intro t hm; exact absurd hm (Nat.not_lt_zero _)
    | succ k_10 ih_10 =>
      intro t hm_10 ht0 ht1 heq
      refine x_iload 4 dX4_firstUnlike_10 rfl ?_
      refine x_iload_n 3 dX4_firstUnlike_12 rfl rfl ?_
      refine x_icmp_gt 41 dX4_firstUnlike_13 (by decide) (fun c_13 => ?_) (fun c_13 => ?_)
      · refine x_iconst dX4_firstUnlike_41 (okI_c rfl) ?_
        exact x_ireturn dX4_firstUnlike_42 rfl (by decide) (by decide) (retI (First.eq (Or.inl ⟨rfl, fun y q1 q2 => by simp only [dif, if_pos (heq y q1 (by omega))]; omega⟩)))
      · refine x_aload_n 0 dX4_firstUnlike_16 rfl rfl ?_
        refine x_iload 4 dX4_firstUnlike_17 rfl ?_
        refine x_callU [vI t] dX4_firstUnlike_19 (ku_X4_34 _ hcv1.2.2) rfl rfl hcv1.1 (by omega) (Nat.le_of_ble_eq_true rfl) (by omega) (by omega) (k_X1_amount (d := 0) hcv1 hok1 (t := t) (by omega)) (after_ret ?_)
        refine x_aload_n 1 dX4_firstUnlike_22 rfl rfl ?_
        refine x_iload 4 dX4_firstUnlike_23 rfl ?_
        refine x_callU [vI t] dX4_firstUnlike_25 (ku_X4_34 _ hcv2.2.2) rfl rfl hcv2.1 (by omega) (Nat.le_of_ble_eq_true rfl) (by omega) (by omega) (k_X1_amount (d := 0) hcv2 hok2 (t := t) (by omega)) (after_ret ?_)
        refine x_lc_eq 35 dX4_firstUnlike_28 dX4_firstUnlike_29 (by decide) (fun c_28 => ?_) (fun c_28 => ?_)
        · refine x_iinc 4 (L' := [(4, vI (t + 1)), (0, vA c1), (1, vA c2), (2, vI p), (3, vI x1)]) dX4_firstUnlike_35 rfl (by unfold okI; omega) (Nat.le_of_ble_eq_true rfl) rfl ?_
          refine x_goto 10 dX4_firstUnlike_38 (by decide) ?_
          exact EX.pick [1, 2, 3, 4, 0] rfl (ih_10 (t + 1)  (by omega) (by omega) (by omega) (fun y q1 q2 => by by_cases q : y < t; exact heq y q1 q; have e : y = t := (by omega); rw [e]; exact c_28))
        · refine x_iload 4 dX4_firstUnlike_32 rfl ?_
          exact x_ireturn dX4_firstUnlike_34 rfl (by decide) (by decide) (retI (First.eq (Or.inr ⟨ht0, by omega, by simp only [dif, if_neg c_28]; omega, fun y q1 q2 => by simp only [dif, if_pos (heq y q1 q2)]; omega⟩)))
  exact EX.pick [2, 3, 4, 1, 0] rfl (loop_10 ((x1 + 1 - (0 : Int)).toNat + 1) 0  (Nat.lt_succ_self _) (by omega) (by omega) (fun y q1 q2 => by omega))
set_option maxRecDepth 100000 in
set_option maxHeartbeats 4000000 in
theorem k_X4_greatestLead {G : aG} {d : Nat} (hd : 2 ≤ d) {h : aH} {c1 ci1 a1 : Nat} {T1 D1 C1 ld1 : Int} {am1 : Nat → Int} (hcv1 : CvAt h c1 ci1 a1 T1 D1 C1 am1 ld1) (hok1 : CvOk T1 D1 C1 am1) {c2 ci2 a2 : Nat} {T2 D2 C2 ld2 : Int} {am2 : Nat → Int} (hcv2 : CvAt h c2 ci2 a2 T2 D2 C2 am2 ld2) (hok2 : CvOk T2 D2 C2 am2) {p : Int} (hp0 : 1 ≤ p) (hp : p ≤ 60) : MC G mX4_greatestLead d 0 0 [vA c1, vA c2, vI p] h (Ret (vJ (sup0 (fun t => (cval T1 D1 C1 am1) t - (cval T2 D2 C2 am2) t) (max T1 T2 + p).toNat)) h) := by
  obtain ⟨hT01, hT21, hD01, hD61, hC01, hC11, hA1, hM1, hW1⟩ := id hok1
  obtain ⟨hT02, hT22, hD02, hD62, hC02, hC12, hA2, hM2, hW2⟩ := id hok2
  refine MC.of (by decide) (Nat.le_of_ble_eq_true rfl) (fun ok okh => ?_)
  show EX G mX4_greatestLead d 0 0 _ 0 [(0, vA c1), (1, vA c2), (2, vI p)] [] h 0 0
  refine x_aload_n 0 dX4_greatestLead_0 rfl rfl ?_
  refine x_aload_n 1 dX4_greatestLead_1 rfl rfl ?_
  refine x_iload_n 2 dX4_greatestLead_2 rfl rfl ?_
  refine x_callS [vA c1, vA c2, vI p] dX4_greatestLead_3 ks_X4_28 rfl rfl (by omega) (Nat.le_of_ble_eq_true rfl) (by omega) (by omega) (k_X4_settledSpan (d := 1) (by omega) hcv1 hok1 hcv2 hok2 hp0 hp) (after_ret ?_)
  refine x_nmI (fun x1 e_x1 => ?_)
  refine x_istore_n (L' := [(3, vI x1), (0, vA c1), (1, vA c2), (2, vI p)]) dX4_greatestLead_6 rfl (Nat.le_of_ble_eq_true rfl) rfl ?_
  refine x_lconst (x := 0) dX4_greatestLead_7 (okJ_c rfl) rfl ?_
  refine x_lstore (L' := [(4, vJ 0), (3, vI x1), (0, vA c1), (1, vA c2), (2, vI p)]) dX4_greatestLead_8 (Nat.le_of_ble_eq_true rfl) rfl ?_
  refine x_iconst dX4_greatestLead_10 (okI_c rfl) ?_
  refine x_istore (L' := [(6, vI 0), (4, vJ 0), (3, vI x1), (0, vA c1), (1, vA c2), (2, vI p)]) dX4_greatestLead_11 (Nat.le_of_ble_eq_true rfl) rfl ?_
  have loop_13 : ∀ (k_13 : Nat) (w : Int) (t : Int) , (x1 - t).toNat < k_13 → 0 ≤ t → t ≤ x1 → w = sup0 (fun t => (cval T1 D1 C1 am1) t - (cval T2 D2 C2 am2) t) t.toNat → EX G mX4_greatestLead d 0 0 (Ret (vJ (sup0 (fun t => (cval T1 D1 C1 am1) t - (cval T2 D2 C2 am2) t) (max T1 T2 + p).toNat)) h) 13 [(0, vA c1), (1, vA c2), (2, vI p), (3, vI x1), (4, vJ w), (6, vI t)] [] h 0 0 := by
    intro k_13
    induction k_13 with
    | zero => intro w t hm; exact absurd hm (Nat.not_lt_zero _)
    | succ k_13 ih_13 =>
      intro w t hm_13 ht0 ht1 hw
      refine x_iload 5 dX4_greatestLead_13 rfl ?_
      refine x_iload_n 3 dX4_greatestLead_15 rfl rfl ?_
      refine x_icmp_ge 45 dX4_greatestLead_16 (by decide) (fun c_16 => ?_) (fun c_16 => ?_)
      · refine x_lload 4 dX4_greatestLead_45 rfl ?_
        exact x_lreturn dX4_greatestLead_47 rfl (by decide) (by decide) (retJ (by rw [hw]; congr 2; omega))
      · refine x_lload 4 dX4_greatestLead_19 rfl ?_
        refine x_aload_n 0 dX4_greatestLead_21 rfl rfl ?_
        refine x_iload 5 dX4_greatestLead_22 rfl ?_
        refine x_callU [vI t] dX4_greatestLead_24 (ku_X4_34 _ hcv1.2.2) rfl rfl hcv1.1 (by omega) (Nat.le_of_ble_eq_true rfl) (by omega) (by omega) (k_X1_amount (d := 0) hcv1 hok1 (t := t) (by omega)) (after_ret ?_)
        refine x_aload_n 1 dX4_greatestLead_27 rfl rfl ?_
        refine x_iload 5 dX4_greatestLead_28 rfl ?_
        refine x_callU [vI t] dX4_greatestLead_30 (ku_X4_34 _ hcv2.2.2) rfl rfl hcv2.1 (by omega) (Nat.le_of_ble_eq_true rfl) (by omega) (by omega) (k_X1_amount (d := 0) hcv2 hok2 (t := t) (by omega)) (after_ret ?_)
        have b1 := cval_nn hok1 ht0
        have b2 := cval_nn hok2 ht0
        have b3 := cval_top hok1 ht0
        have b4 := cval_top hok2 ht0
        refine x_lsub dX4_greatestLead_33 (by unfold okJ; omega) ?_
        refine x_maxJ dX4_greatestLead_34 km_X4_37 (by omega) (Nat.le_of_ble_eq_true rfl) (by omega) (by omega) ?_
        refine x_nmJ (fun x2 e_x2 => ?_)
        refine x_lstore (L' := [(4, vJ x2), (0, vA c1), (1, vA c2), (2, vI p), (3, vI x1), (6, vI t)]) dX4_greatestLead_37 (Nat.le_of_ble_eq_true rfl) rfl ?_
        refine x_iinc 5 (L' := [(6, vI (t + 1)), (4, vJ x2), (0, vA c1), (1, vA c2), (2, vI p), (3, vI x1)]) dX4_greatestLead_39 rfl (by unfold okI; omega) (Nat.le_of_ble_eq_true rfl) rfl ?_
        refine x_goto 13 dX4_greatestLead_42 (by decide) ?_
        exact EX.pick [2, 3, 4, 5, 1, 0] rfl (ih_13 x2 (t + 1)  (by omega) (by omega) (by omega) (by rw [sup0_s ht0, ← hw, e_x2]))
  exact EX.pick [3, 4, 5, 2, 1, 0] rfl (loop_13 ((x1 - (0 : Int)).toNat + 1) 0 0  (Nat.lt_succ_self _) (by omega) (by omega) rfl)
set_option maxRecDepth 100000 in
set_option maxHeartbeats 4000000 in
theorem k_X4_longestWait {G : aG} {d : Nat} (hd : 2 ≤ d) {h : aH} {c1 ci1 a1 : Nat} {T1 D1 C1 ld1 : Int} {am1 : Nat → Int} (hcv1 : CvAt h c1 ci1 a1 T1 D1 C1 am1 ld1) (hok1 : CvOk T1 D1 C1 am1) {c2 ci2 a2 : Nat} {T2 D2 C2 ld2 : Int} {am2 : Nat → Int} (hcv2 : CvAt h c2 ci2 a2 T2 D2 C2 am2 ld2) (hok2 : CvOk T2 D2 C2 am2) {p : Int} (hp0 : 1 ≤ p) (hp : p ≤ 60) : MC G mX4_longestWait d 0 0 [vA c1, vA c2, vI p] h (Ret (vI (waitS (cval T1 D1 C1 am1) (cval T2 D2 C2 am2) (max T1 T2 + p))) h) := by
  obtain ⟨hT01, hT21, hD01, hD61, hC01, hC11, hA1, hM1, hW1⟩ := id hok1
  obtain ⟨hT02, hT22, hD02, hD62, hC02, hC12, hA2, hM2, hW2⟩ := id hok2
  refine MC.of (by decide) (Nat.le_of_ble_eq_true rfl) (fun ok okh => ?_)
  show EX G mX4_longestWait d 0 0 _ 0 [(0, vA c1), (1, vA c2), (2, vI p)] [] h 0 0
  refine x_aload_n 0 dX4_longestWait_0 rfl rfl ?_
  refine x_aload_n 1 dX4_longestWait_1 rfl rfl ?_
  refine x_iload_n 2 dX4_longestWait_2 rfl rfl ?_
  refine x_callS [vA c1, vA c2, vI p] dX4_longestWait_3 ks_X4_28 rfl rfl (by omega) (Nat.le_of_ble_eq_true rfl) (by omega) (by omega) (k_X4_settledSpan (d := 1) (by omega) hcv1 hok1 hcv2 hok2 hp0 hp) (after_ret ?_)
  refine x_nmI (fun x1 e_x1 => ?_)
  refine x_istore_n (L' := [(3, vI x1), (0, vA c1), (1, vA c2), (2, vI p)]) dX4_longestWait_6 rfl (Nat.le_of_ble_eq_true rfl) rfl ?_
  refine x_iconst dX4_longestWait_7 (okI_c rfl) ?_
  refine x_istore (L' := [(4, vI 0), (3, vI x1), (0, vA c1), (1, vA c2), (2, vI p)]) dX4_longestWait_8 (Nat.le_of_ble_eq_true rfl) rfl ?_
  refine x_iconst dX4_longestWait_10 (okI_c rfl) ?_
  refine x_istore (L' := [(5, vI 0), (4, vI 0), (3, vI x1), (0, vA c1), (1, vA c2), (2, vI p)]) dX4_longestWait_11 (Nat.le_of_ble_eq_true rfl) rfl ?_
  have loop_13 : ∀ (k_13 : Nat) (w : Int) (t : Int) , (x1 - t).toNat < k_13 → 0 ≤ t → t ≤ x1 → 0 ≤ w → w ≤ 1000000000 → (∀ y : Int, 0 ≤ y → y < t → spanS (cval T1 D1 C1 am1) (cval T2 D2 C2 am2) y ≠ -1) → w = sup0 (fun t => spanS (cval T1 D1 C1 am1) (cval T2 D2 C2 am2) t - t) t.toNat → EX G mX4_longestWait d 0 0 (Ret (vI (waitS (cval T1 D1 C1 am1) (cval T2 D2 C2 am2) (max T1 T2 + p))) h) 13 [(0, vA c1), (1, vA c2), (2, vI p), (3, vI x1), (4, vI w), (5, vI t)] [] h 0 0 := by
    intro k_13
    induction k_13 with
    | zero => intro w t hm; exact absurd hm (Nat.not_lt_zero _)
    | succ k_13 ih_13 =>
      intro w t hm_13 ht0 ht1 hw0 hw1 hall hw
      refine x_iload 5 dX4_longestWait_13 rfl ?_
      refine x_iload_n 3 dX4_longestWait_15 rfl rfl ?_
      refine x_icmp_ge 76 dX4_longestWait_16 (by decide) (fun c_16 => ?_) (fun c_16 => ?_)
      · refine x_iload 4 dX4_longestWait_76 rfl ?_
        exact x_ireturn dX4_longestWait_78 rfl (by decide) (by decide) (retI (by rw [show max T1 T2 + p = t by omega, waitS_t hall, hw]))
      · refine x_aload_n 0 dX4_longestWait_19 rfl rfl ?_
        refine x_iload 5 dX4_longestWait_20 rfl ?_
        refine x_callU [vI t] dX4_longestWait_22 (ku_X4_34 _ hcv1.2.2) rfl rfl hcv1.1 (by omega) (Nat.le_of_ble_eq_true rfl) (by omega) (by omega) (k_X1_amount (d := 0) hcv1 hok1 (t := t) (by omega)) (after_ret ?_)
        refine x_nmJ (fun x2 e_x2 => ?_)
        refine x_lstore (L' := [(6, vJ x2), (0, vA c1), (1, vA c2), (2, vI p), (3, vI x1), (4, vI w), (5, vI t)]) dX4_longestWait_25 (Nat.le_of_ble_eq_true rfl) rfl ?_
        have b1 := cval_nn hok1 ht0
        have b3 := cval_top hok1 ht0
        refine x_aload_n 2 dX4_longestWait_27 rfl rfl ?_
        refine x_iload 6 dX4_longestWait_28 rfl ?_
        refine x_iload 5 dX4_longestWait_30 rfl ?_
        refine x_iadd dX4_longestWait_32 (by unfold okI; omega) ?_
        refine x_callU [vI (t + w)] dX4_longestWait_33 (ku_X4_34 _ hcv2.2.2) rfl rfl hcv2.1 (by omega) (Nat.le_of_ble_eq_true rfl) (by omega) (by omega) (k_X1_amount (d := 0) hcv2 hok2 (t := t + w) (by omega)) (after_ret ?_)
        refine x_lload 0 dX4_longestWait_36 rfl ?_
        refine x_lc_ge 70 dX4_longestWait_38 dX4_longestWait_39 (by decide) (fun c_38 => ?_) (fun c_38 => ?_)
        · refine x_iinc 6 (L' := [(5, vI (t + 1)), (6, vJ x2), (0, vA c1), (1, vA c2), (2, vI p), (3, vI x1), (4, vI w)]) dX4_longestWait_70 rfl (by unfold okI; omega) (Nat.le_of_ble_eq_true rfl) rfl ?_
          refine x_goto 13 dX4_longestWait_73 (by decide) ?_
          have hsp := span_of (F := (cval T1 D1 C1 am1)) (G := (cval T2 D2 C2 am2)) (t := t) (x := t + w) (by omega) (by omega) (fun a b q1 q2 => cval_mono hok2 q1 q2) (by rw [← e_x2]; exact c_38)
          exact EX.pick [2, 3, 4, 5, 6, 0] rfl (ih_13 w (t + 1)  (by omega) (by omega) (by omega) (by omega) (by omega) (fun y q1 q2 => by by_cases q : y < t; exact hall y q1 q; have e : y = t := (by omega); rw [e]; first | exact hne | omega) (by rw [sup0_s ht0, ← hw]; omega))
        · refine x_aload_n 2 dX4_longestWait_42 rfl rfl ?_
          refine x_lload 0 dX4_longestWait_43 rfl ?_
          refine x_iload 6 dX4_longestWait_45 rfl ?_
          refine x_ldc (n := 1000000000) dX4_longestWait_47 (okI_c rfl) kc_X4_40 ?_
          refine x_iadd dX4_longestWait_49 (by unfold okI; omega) ?_
          refine x_callU [vJ x2, vI (t + 1000000000)] dX4_longestWait_50 (ku_X4_41 _ hcv2.2.2) rfl rfl hcv2.1 (by omega) (Nat.le_of_ble_eq_true rfl) (by omega) (by omega) (k_X1_first (d := 1) (by omega) hcv2 hok2 (v := x2) (last := t + 1000000000) (by unfold okJ; omega) (by omega) (by omega)) (after_ret ?_)
          refine x_nmI (fun x3 e_x3 => ?_)
          refine x_istore (L' := [(8, vI x3), (6, vJ x2), (0, vA c1), (1, vA c2), (2, vI p), (3, vI x1), (4, vI w), (5, vI t)]) dX4_longestWait_53 (Nat.le_of_ble_eq_true rfl) rfl ?_
          refine x_iload 0 dX4_longestWait_55 rfl ?_
          refine x_iconst dX4_longestWait_57 (okI_c rfl) ?_
          refine x_icmp_ne 63 dX4_longestWait_58 (by decide) (fun c_58 => ?_) (fun c_58 => ?_)
          · refine x_iload 0 dX4_longestWait_63 rfl ?_
            refine x_iload 7 dX4_longestWait_65 rfl ?_
            refine x_isub dX4_longestWait_67 (by have hne : spanS (cval T1 D1 C1 am1) (cval T2 D2 C2 am2) t ≠ -1 := (fun q => c_58 (by rw [e_x3, e_x2]; exact q)); have hsp := span_gt (F := (cval T1 D1 C1 am1)) (G := (cval T2 D2 C2 am2)) (t := t) (x := t + w) (by omega) (fun a b q1 q2 => cval_mono hok2 q1 q2) (by rw [← e_x2]; exact c_38) hne; have e3 : x3 = spanS (cval T1 D1 C1 am1) (cval T2 D2 C2 am2) t := (by rw [e_x3, e_x2]; rfl); unfold okI; omega) ?_
            refine x_nmI (fun x4 e_x4 => ?_)
            refine x_istore (L' := [(4, vI x4), (8, vI x3), (6, vJ x2), (0, vA c1), (1, vA c2), (2, vI p), (3, vI x1), (5, vI t)]) dX4_longestWait_68 (Nat.le_of_ble_eq_true rfl) rfl ?_
            refine x_iinc 7 (L' := [(5, vI (t + 1)), (4, vI x4), (8, vI x3), (6, vJ x2), (0, vA c1), (1, vA c2), (2, vI p), (3, vI x1)]) dX4_longestWait_70 rfl (by unfold okI; omega) (Nat.le_of_ble_eq_true rfl) rfl ?_
            refine x_goto 13 dX4_longestWait_73 (by decide) ?_
            have hne : spanS (cval T1 D1 C1 am1) (cval T2 D2 C2 am2) t ≠ -1 := fun q => c_58 (by rw [e_x3, e_x2]; exact q)
            have hsp := span_gt (F := (cval T1 D1 C1 am1)) (G := (cval T2 D2 C2 am2)) (t := t) (x := t + w) (by omega) (fun a b q1 q2 => cval_mono hok2 q1 q2) (by rw [← e_x2]; exact c_38) hne
            have e3 : x3 = spanS (cval T1 D1 C1 am1) (cval T2 D2 C2 am2) t := by rw [e_x3, e_x2]; rfl
            exact EX.pick [4, 5, 6, 7, 1, 0] rfl (ih_13 x4 (t + 1)  (by omega) (by omega) (by omega) (by omega) (by omega) (fun y q1 q2 => by by_cases q : y < t; exact hall y q1 q; have e : y = t := (by omega); rw [e]; first | exact hne | omega) (by rw [sup0_s ht0, ← hw]; omega))
          · refine x_iconst dX4_longestWait_61 (okI_c rfl) ?_
            exact x_ireturn dX4_longestWait_62 rfl (by decide) (by decide) (retI (waitS_f ht0 (by omega) (by have := c_58; rw [e_x3, e_x2] at this; exact this)).symm)
  exact EX.pick [3, 4, 5, 2, 1, 0] rfl (loop_13 ((x1 - (0 : Int)).toNat + 1) 0 0  (Nat.lt_succ_self _) (by omega) (by omega) (by omega) (by omega) (fun y q1 q2 => by omega) rfl)
end
section
/-! ===== Run ===== -/
def psum (f : Nat → Int) : Nat → Int
  | 0 => 0
  | n + 1 => psum f n + f n
/-- what came until a span, of n steps -/
def arrS (n : Int) (sm : Nat → Int) (t : Int) : Int := psum sm (min t n).toNat
def StepsOk (n : Int) (sm : Nat → Int) : Prop := 0 ≤ n ∧ n ≤ 60 ∧ ∀ k : Int, 0 ≤ k → k < n → 0 ≤ sm k.toNat ∧ sm k.toNat ≤ 1000000000
theorem psum_s {f : Nat → Int} {k : Int} (h : 0 ≤ k) : psum f (k + 1).toNat = psum f k.toNat + f k.toNat := by
  rw [show (k + 1).toNat = k.toNat + 1 by omega]; rfl
theorem psum_le {n : Int} {sm : Nat → Int} (ok : StepsOk n sm) : ∀ (j : Nat) (i : Nat), ((i + j : Nat) : Int) ≤ n → psum sm i ≤ psum sm (i + j) ∧ psum sm (i + j) ≤ psum sm i + (j : Int) * 1000000000 := by
  intro j
  induction j with
  | zero => intro i h; simp
  | succ j ih =>
    intro i h
    have h1 := ih i (by omega)
    have h2 := ok.2.2 ((i + j : Nat) : Int) (by omega) (by omega)
    rw [show (((i + j : Nat) : Int)).toNat = i + j by omega] at h2
    have h3 : psum sm (i + (j + 1)) = psum sm (i + j) + sm (i + j) := rfl
    rw [h3]
    omega
theorem arr_mono {n s t : Int} {sm : Nat → Int} (ok : StepsOk n sm) (hs : 0 ≤ s) (hst : s ≤ t) : arrS n sm s ≤ arrS n sm t := by
  have h0 := ok.1
  have := (psum_le ok ((min t n).toNat - (min s n).toNat) (min s n).toNat (by omega)).1
  rw [show (min s n).toNat + ((min t n).toNat - (min s n).toNat) = (min t n).toNat by omega] at this
  exact this
theorem arr_top {n t : Int} {sm : Nat → Int} (ok : StepsOk n sm) (ht : 0 ≤ t) : 0 ≤ arrS n sm t ∧ arrS n sm t ≤ 60000000000 := by
  obtain ⟨h0, h1, h2⟩ := id ok
  have := psum_le ok (min t n).toNat 0 (by omega)
  have e : psum sm 0 = 0 := rfl
  rw [Nat.zero_add, e] at this
  unfold arrS
  omega
theorem arr_end {n t : Int} {sm : Nat → Int} (h : n ≤ t) : arrS n sm t = arrS n sm n := by
  unfold arrS
  rw [Int.min_eq_right h, Int.min_eq_right (Int.le_refl n)]
/-- the least of some, and of a number -/
def minS (f : Int → Int) (v : Int) : Nat → Int
  | 0 => v
  | n + 1 => min (minS f v n) (f n)
theorem minS_s {f : Int → Int} {v t : Int} (h : 0 ≤ t) : minS f v (t + 1).toNat = min (minS f v t.toNat) (f t) := by
  rw [show (t + 1).toNat = t.toNat + 1 by omega]
  show min _ (f (t.toNat : Int)) = _
  rw [show ((t.toNat : Nat) : Int) = t by omega]
theorem minS_le (f : Int → Int) (v : Int) (n : Nat) : minS f v n ≤ v := by
  induction n with
  | zero => exact Int.le_refl v
  | succ n ih => simp only [minS]; omega
theorem minS_le_at {f : Int → Int} {v : Int} {n : Nat} {t : Int} (h0 : 0 ≤ t) (h : t < n) : minS f v n ≤ f t := by
  induction n with
  | zero => omega
  | succ n ih =>
    simp only [minS]
    by_cases e : t = n
    · subst e; omega
    · have := ih (by omega); omega
theorem minS_ge {f : Int → Int} {v b : Int} {n : Nat} (hv : b ≤ v) (h : ∀ t : Int, 0 ≤ t → t < n → b ≤ f t) : b ≤ minS f v n := by
  induction n with
  | zero => exact hv
  | succ n ih =>
    simp only [minS]
    have h1 := ih fun t a b => h t a (by omega)
    have h2 := h n (by omega) (by omega)
    omega
theorem minS_more {f : Int → Int} {v : Int} {n : Nat} (k : Nat) (h : ∀ t : Int, n ≤ t → t < ((n + k : Nat) : Int) → v ≤ f t) : minS f v (n + k) = minS f v n := by
  induction k with
  | zero => rfl
  | succ k ih =>
    have h1 := ih fun t a b => h t a (by omega)
    have h2 := h ((n + k : Nat) : Int) (by omega) (by omega)
    have h3 := minS_le f v n
    show min (minS f v (n + k)) (f ((n + k : Nat) : Int)) = _
    rw [h1]; omega
/-- what is served until a span: by a curve G of what came -/
def servS (n : Int) (sm : Nat → Int) (G : Int → Int) (t : Int) : Int := minS (fun s => arrS n sm s + G (t - s)) (arrS n sm t) (t + 1).toNat
def Mono (G : Int → Int) : Prop := (∀ s : Int, 0 ≤ s → 0 ≤ G s) ∧ ∀ s u : Int, 0 ≤ s → s ≤ u → G s ≤ G u
theorem cval_M {T D C : Int} {am : Nat → Int} (ok : CvOk T D C am) : Mono (cval T D C am) := ⟨fun _ h => cval_nn ok h, fun _ _ h1 h2 => cval_mono ok h1 h2⟩
theorem serv_cut {n t : Int} {sm : Nat → Int} {G : Int → Int} (ok : StepsOk n sm) (hG : Mono G) (ht : 0 ≤ t) : servS n sm G t = minS (fun s => arrS n sm s + G (t - s)) (arrS n sm t) (min t n + 1).toNat := by
  have h0 := ok.1
  have := minS_more (f := fun s => arrS n sm s + G (t - s)) (v := arrS n sm t) (n := (min t n + 1).toNat) ((t + 1).toNat - (min t n + 1).toNat) (by
    intro s h1 h2
    have e1 : arrS n sm s = arrS n sm n := arr_end (by omega)
    have e2 : arrS n sm t = arrS n sm n := arr_end (by omega)
    have e3 := hG.1 (t - s) (by omega)
    omega)
  rw [show (min t n + 1).toNat + ((t + 1).toNat - (min t n + 1).toNat) = (t + 1).toNat by omega] at this
  exact this
theorem serv_top {n t : Int} {sm : Nat → Int} {G : Int → Int} (ok : StepsOk n sm) (hG : Mono G) (ht : 0 ≤ t) : 0 ≤ servS n sm G t ∧ servS n sm G t ≤ arrS n sm t := by
  refine ⟨minS_ge (arr_top ok ht).1 fun s h1 h2 => ?_, minS_le _ _ _⟩
  have := (arr_top (t := s) ok h1).1
  have := hG.1 (t - s) (by omega)
  omega
theorem serv_mono {n s t : Int} {sm : Nat → Int} {G : Int → Int} (ok : StepsOk n sm) (hG : Mono G) (hs : 0 ≤ s) (hst : s ≤ t) : servS n sm G s ≤ servS n sm G t := by
  have ha := arr_mono ok hs hst
  have h1 := (serv_top ok hG hs).2
  refine minS_ge (by omega) fun u h2 h3 => ?_
  by_cases q : u ≤ s
  · have h4 : servS n sm G s ≤ arrS n sm u + G (s - u) := minS_le_at (f := fun x => arrS n sm x + G (s - x)) h2 (by omega)
    have h5 := hG.2 (s - u) (t - u) (by omega) (by omega)
    omega
  · have h4 := arr_mono ok hs (show s ≤ u by omega)
    have h5 := hG.1 (t - u) (by omega)
    omega
noncomputable def lateS (n : Int) (sm : Nat → Int) (G : Int → Int) (t : Int) : Int := firstS (fun w => servS n sm G (t + w)) (arrS n sm t) 500
noncomputable def mostLateS (n : Int) (sm : Nat → Int) (G : Int → Int) : Int := @ite Int (∀ t : Int, 0 ≤ t → t ≤ n → lateS n sm G t ≠ -1) (Classical.propDecidable _) (sup0 (lateS n sm G) (n + 1).toNat) (-1)
def keepsS (n : Int) (sm : Nat → Int) (F : Int → Int) : Prop := ∀ t s : Int, 0 ≤ s → s ≤ t → t ≤ n → arrS n sm t - arrS n sm s ≤ F (t - s)
/-- a step of the hardest run -/
def hstep (F : Int → Int) (t : Int) : Int := if t = 1 then F 1 else F t - F (t - 1)
def RunAt (h : aH) (r cr : Nat) (n : Int) (cm : Nat → Int) : Prop := h r = some (eO 5 [vA cr, vI n]) ∧ h cr = some (eJ 61 cm)
def RunOk (n : Int) (sm cm : Nat → Int) : Prop := StepsOk n sm ∧ ∀ k : Int, 0 ≤ k → k ≤ n → cm k.toNat = psum sm k.toNat
theorem RunOk.arr {n t : Int} {sm cm : Nat → Int} (ok : RunOk n sm cm) (ht : 0 ≤ t) : cm (min t n).toNat = arrS n sm t := by
  have h0 := ok.1.1
  have := ok.2 (min t n) (by omega) (by omega)
  rw [this]; rfl
set_option maxRecDepth 100000 in
set_option maxHeartbeats 4000000 in
theorem k_X6_isFull {G : aG} {d : Nat}  {h : aH} {r cr : Nat} {n : Int} {cm : Nat → Int} (hr : RunAt h r cr n cm) (hn0 : 0 ≤ n) (hn6 : n ≤ 60) : MC G mX6_isFull d 0 0 [vA r] h (Ret (vI (b2i (n = 60))) h) := by
  refine MC.of (by decide) (Nat.le_of_ble_eq_true rfl) (fun ok okh => ?_)
  show EX G mX6_isFull d 0 0 _ 0 [(0, vA r)] [] h 0 0
  refine x_aload_n 0 dX6_isFull_0 rfl rfl ?_
  refine x_get 1 dX6_isFull_1 fl_X6_15 hr.1 rfl ?_
  refine x_if_lt 21 dX6_isFull_4 (by decide) (fun c_4 => (by exfalso; omega)) (fun c_4 => ?_)
  refine x_aload_n 0 dX6_isFull_7 rfl rfl ?_
  refine x_get 1 dX6_isFull_8 fl_X6_15 hr.1 rfl ?_
  refine x_iconst dX6_isFull_11 (okI_c rfl) ?_
  refine x_iadd dX6_isFull_12 (by unfold okI; omega) ?_
  refine x_aload_n 0 dX6_isFull_13 rfl rfl ?_
  refine x_get 0 dX6_isFull_14 fl_X6_9 hr.1 rfl ?_
  refine x_alenJ dX6_isFull_17 hr.2 (by omega) ?_
  refine x_icmp_lt 25 dX6_isFull_18 (by decide) (fun c_18 => ?_) (fun c_18 => ?_)
  · refine x_iconst dX6_isFull_25 (okI_c rfl) ?_
    exact x_zreturn dX6_isFull_26 rfl (by omega) (by decide) (by decide) (retI (b2i_f (by omega)).symm)
  · refine x_iconst dX6_isFull_21 (okI_c rfl) ?_
    refine x_goto 26 dX6_isFull_22 (by decide) ?_
    exact x_zreturn dX6_isFull_26 rfl (by omega) (by decide) (by decide) (retI (b2i_t (by omega)).symm)
set_option maxRecDepth 100000 in
set_option maxHeartbeats 4000000 in
theorem k_X6_add {G : aG} {d : Nat} (hd : 1 ≤ d) {h : aH} {r cr : Nat} {n : Int} {cm : Nat → Int} (hr : RunAt h r cr n cm) {sm : Nat → Int} (hro : RunOk n sm cm) {x : Int} (hx0 : 0 ≤ x) (hx1 : x ≤ 1000000000) (hlt : n < 60) : MC G mX6_add d 0 0 [vA r, vJ x] h (Voi (hset (hset h cr (eJ 61 (va_up cm (n + 1).toNat (cm n.toNat + x)))) r (eO 5 [vA cr, vI (n + 1)]))) := by
  obtain ⟨⟨hn0, hn6, hsm⟩, hcm⟩ := id hro
  refine MC.of (by decide) (Nat.le_of_ble_eq_true rfl) (fun ok okh => ?_)
  show EX G mX6_add d 0 0 _ 0 [(0, vA r), (1, vJ x)] [] h 0 0
  refine x_aload_n 0 dX6_add_0 rfl rfl ?_
  refine x_callV [] dX6_add_1 kv_X6_19 rfl rfl hr.1 (by omega) (Nat.le_of_ble_eq_true rfl) (by omega) (by omega) (k_X6_isFull (d := 0) hr hn0 hn6) (after_ret ?_)
  refine x_if_ne 39 dX6_add_4 (by decide) (fun c_4 => (by exact absurd (b2i_f (show ¬ n = 60 by omega)) c_4)) (fun c_4 => ?_)
  refine x_aload_n 0 dX6_add_7 rfl rfl ?_
  refine x_get 0 dX6_add_8 fl_X6_9 hr.1 rfl ?_
  refine x_aload_n 0 dX6_add_11 rfl rfl ?_
  refine x_get 1 dX6_add_12 fl_X6_15 hr.1 rfl ?_
  refine x_iconst dX6_add_15 (okI_c rfl) ?_
  refine x_iadd dX6_add_16 (by unfold okI; omega) ?_
  refine x_aload_n 0 dX6_add_17 rfl rfl ?_
  refine x_get 0 dX6_add_18 fl_X6_9 hr.1 rfl ?_
  refine x_aload_n 0 dX6_add_21 rfl rfl ?_
  refine x_get 1 dX6_add_22 fl_X6_15 hr.1 rfl ?_
  refine x_laload dX6_add_25 hr.2 (by omega) (by omega) ?_
  refine x_lload_n 1 dX6_add_26 rfl rfl ?_
  have ha := arr_top (t := n) hro.1 hn0
  rw [← hro.arr hn0, Int.min_eq_left (Int.le_refl n)] at ha
  refine x_ladd dX6_add_27 (by unfold okJ; omega) ?_
  refine x_lastore dX6_add_28 hr.2 (by omega) (by omega) ?_
  refine x_aload_n 0 dX6_add_29 rfl rfl ?_
  refine x_dup dX6_add_30 rfl ?_
  refine x_get 1 dX6_add_31 fl_X6_15 ((hset_ne _ _ (neOJ hr.1 hr.2)).trans hr.1) rfl ?_
  refine x_iconst dX6_add_34 (okI_c rfl) ?_
  refine x_iadd dX6_add_35 (by unfold okI; omega) ?_
  refine x_put 1 dX6_add_36 pu_X6_15 ((hset_ne _ _ (neOJ hr.1 hr.2)).trans hr.1) rfl rfl (Nat.le_of_ble_eq_true rfl) ?_
  exact x_return dX6_add_39 rfl (by decide) (by decide) ⟨rfl, rfl⟩
set_option maxRecDepth 100000 in
set_option maxHeartbeats 4000000 in
theorem k_X6_hardestStep {G : aG} {d : Nat} (hd : 1 ≤ d) {h : aH} {c ci a : Nat} {T D C ld : Int} {am : Nat → Int} (hcv : CvAt h c ci a T D C am ld) (hok : CvOk T D C am) {t : Int} (ht1 : 1 ≤ t) (ht : t ≤ 1000) : MC G mX6_hardestStep d 0 0 [vA c, vI t] h (Ret (vJ (hstep (cval T D C am) t)) h) := by
  obtain ⟨hT0, hT2, hD0, hD6, hC0, hC1, hA, hM, hW⟩ := id hok
  refine MC.of (by decide) (Nat.le_of_ble_eq_true rfl) (fun ok okh => ?_)
  show EX G mX6_hardestStep d 0 0 _ 0 [(0, vA c), (1, vI t)] [] h 0 0
  refine x_iload_n 1 dX6_hardestStep_0 rfl rfl ?_
  refine x_iconst dX6_hardestStep_1 (okI_c rfl) ?_
  refine x_icmp_ne 13 dX6_hardestStep_2 (by decide) (fun c_2 => ?_) (fun c_2 => ?_)
  · refine x_aload_n 0 dX6_hardestStep_13 rfl rfl ?_
    refine x_iload_n 1 dX6_hardestStep_14 rfl rfl ?_
    refine x_callU [vI t] dX6_hardestStep_15 (ku_X6_23 _ hcv.2.2) rfl rfl hcv.1 (by omega) (Nat.le_of_ble_eq_true rfl) (by omega) (by omega) (k_X1_amount (d := 0) hcv hok (t := t) (by omega)) (after_ret ?_)
    refine x_aload_n 0 dX6_hardestStep_18 rfl rfl ?_
    refine x_iload_n 1 dX6_hardestStep_19 rfl rfl ?_
    refine x_iconst dX6_hardestStep_20 (okI_c rfl) ?_
    refine x_isub dX6_hardestStep_21 (by unfold okI; omega) ?_
    refine x_callU [vI (t - 1)] dX6_hardestStep_22 (ku_X6_23 _ hcv.2.2) rfl rfl hcv.1 (by omega) (Nat.le_of_ble_eq_true rfl) (by omega) (by omega) (k_X1_amount (d := 0) hcv hok (t := t - 1) (by omega)) (after_ret ?_)
    have b1 := cval_nn hok (show 0 ≤ t by omega)
    have b2 := cval_nn hok (show 0 ≤ t - 1 by omega)
    have b3 := cval_top hok (show 0 ≤ t by omega)
    have b4 := cval_top hok (show 0 ≤ t - 1 by omega)
    refine x_lsub dX6_hardestStep_25 (by unfold okJ; omega) ?_
    exact x_lreturn dX6_hardestStep_26 rfl (by decide) (by decide) (retJ (by rw [hstep, if_neg (by omega)]))
  · refine x_aload_n 0 dX6_hardestStep_5 rfl rfl ?_
    refine x_iconst dX6_hardestStep_6 (okI_c rfl) ?_
    refine x_callU [vI 1] dX6_hardestStep_7 (ku_X6_23 _ hcv.2.2) rfl rfl hcv.1 (by omega) (Nat.le_of_ble_eq_true rfl) (by omega) (by omega) (k_X1_amount (d := 0) hcv hok (t := 1) (by omega)) (after_ret ?_)
    refine x_goto 26 dX6_hardestStep_10 (by decide) ?_
    exact x_lreturn dX6_hardestStep_26 rfl (by decide) (by decide) (retJ (by rw [hstep, if_pos (by omega)]))
set_option maxRecDepth 100000 in
set_option maxHeartbeats 4000000 in
theorem k_X6_canFollow {G : aG} {d : Nat} (hd : 2 ≤ d) {h : aH} {c ci a : Nat} {T D C ld : Int} {am : Nat → Int} (hcv : CvAt h c ci a T D C am ld) (hok : CvOk T D C am) {n : Int} (hn0 : 0 ≤ n) (hn6 : n ≤ 60) : MC G mX6_canFollow d 0 0 [vA c, vI n] h (Ret (vI (b2i (∀ t : Int, 1 ≤ t → t ≤ n → hstep (cval T D C am) t ≤ 1000000000))) h) := by
  obtain ⟨hT0, hT2, hD0, hD6, hC0, hC1, hA, hM, hW⟩ := id hok
  refine MC.of (by decide) (Nat.le_of_ble_eq_true rfl) (fun ok okh => ?_)
  show EX G mX6_canFollow d 0 0 _ 0 [(0, vA c), (1, vI n)] [] h 0 0
  refine x_iconst dX6_canFollow_0 (okI_c rfl) ?_
  refine x_istore_n (L' := [(2, vI 1), (0, vA c), (1, vI n)]) dX6_canFollow_1 rfl (Nat.le_of_ble_eq_true rfl) rfl ?_
  have loop_2 : ∀ (k_2 : Nat) (t : Int) , (n + 1 - t).toNat < k_2 → 1 ≤ t → t ≤ n + 1 → (∀ y : Int, 1 ≤ y → y < t → hstep (cval T D C am) y ≤ 1000000000) → EX G mX6_canFollow d 0 0 (Ret (vI (b2i (∀ t : Int, 1 ≤ t → t ≤ n → hstep (cval T D C am) t ≤ 1000000000))) h) 2 [(0, vA c), (1, vI n), (2, vI t)] [] h 0 0 := by
    intro k_2
    induction k_2 with
    | zero => intro t hm; exact absurd hm (Nat.not_lt_zero _)
    | succ k_2 ih_2 =>
      intro t hm_2 ht1 htn hall
      refine x_iload_n 2 dX6_canFollow_2 rfl rfl ?_
      refine x_iload_n 1 dX6_canFollow_3 rfl rfl ?_
      refine x_icmp_gt 27 dX6_canFollow_4 (by decide) (fun c_4 => ?_) (fun c_4 => ?_)
      · refine x_iconst dX6_canFollow_27 (okI_c rfl) ?_
        exact x_zreturn dX6_canFollow_28 rfl (Or.inr rfl) (by decide) (by decide) (retI (b2i_t (fun y q1 q2 => hall y q1 (by omega))).symm)
      · refine x_aload_n 0 dX6_canFollow_7 rfl rfl ?_
        refine x_iload_n 2 dX6_canFollow_8 rfl rfl ?_
        refine x_callS [vA c, vI t] dX6_canFollow_9 ks_X6_29 rfl rfl (by omega) (Nat.le_of_ble_eq_true rfl) (by omega) (by omega) (k_X6_hardestStep (d := 1) (by omega) hcv hok (t := t) (by omega) (by omega)) (after_ret ?_)
        refine x_ldc2 (n := 1000000000) dX6_canFollow_12 (okJ_c rfl) kc_X6_33 ?_
        refine x_lc_le 21 dX6_canFollow_15 dX6_canFollow_16 (by decide) (fun c_15 => ?_) (fun c_15 => ?_)
        · refine x_iinc 2 (L' := [(2, vI (t + 1)), (0, vA c), (1, vI n)]) dX6_canFollow_21 rfl (by unfold okI; omega) (Nat.le_of_ble_eq_true rfl) rfl ?_
          refine x_goto 2 dX6_canFollow_24 (by decide) ?_
          exact EX.pick [1, 2, 0] rfl (ih_2 (t + 1)  (by omega) (by omega) (by omega) (fun y q1 q2 => by by_cases q : y < t; exact hall y q1 q; have e : y = t := (by omega); rw [e]; exact c_15))
        · refine x_iconst dX6_canFollow_19 (okI_c rfl) ?_
          exact x_zreturn dX6_canFollow_20 rfl (Or.inl rfl) (by decide) (by decide) (retI (b2i_f (fun q => by have := q t ht1 (by omega); omega)).symm)
  exact EX.pick [1, 2, 0] rfl (loop_2 ((n + 1 - (1 : Int)).toNat + 1) 1  (Nat.lt_succ_self _) (by omega) (by omega) (fun y q1 q2 => by omega))
set_option maxRecDepth 100000 in
set_option maxHeartbeats 4000000 in
theorem k_X6_arrived {G : aG} {d : Nat} (hd : 1 ≤ d) {h : aH} {r cr : Nat} {n : Int} {cm : Nat → Int} (hr : RunAt h r cr n cm) {sm : Nat → Int} (hro : RunOk n sm cm) {t : Int} (ht0 : 0 ≤ t) : MC G mX6_arrived d 0 0 [vA r, vI t] h (Ret (vJ (arrS n sm t)) h) := by
  obtain ⟨⟨hn0, hn6, hsm⟩, hcm⟩ := id hro
  refine MC.of (by decide) (Nat.le_of_ble_eq_true rfl) (fun ok okh => ?_)
  show EX G mX6_arrived d 0 0 _ 0 [(0, vA r), (1, vI t)] [] h 0 0
  refine x_iload_n 1 dX6_arrived_0 rfl rfl ?_
  refine x_aload_n 0 dX6_arrived_1 rfl rfl ?_
  refine x_get 1 dX6_arrived_2 fl_X6_15 hr.1 rfl ?_
  refine x_minI dX6_arrived_5 km_X6_39 (by omega) (Nat.le_of_ble_eq_true rfl) (by omega) (by omega) ?_
  refine x_nmI (fun x1 e_x1 => ?_)
  refine x_istore_n (L' := [(2, vI x1), (0, vA r), (1, vI t)]) dX6_arrived_8 rfl (Nat.le_of_ble_eq_true rfl) rfl ?_
  refine x_iload_n 0 dX6_arrived_9 rfl rfl ?_
  refine x_if_lt 22 dX6_arrived_10 (by decide) (fun c_10 => (by exfalso; omega)) (fun c_10 => ?_)
  refine x_iload_n 0 dX6_arrived_13 rfl rfl ?_
  refine x_aload_n 1 dX6_arrived_14 rfl rfl ?_
  refine x_get 0 dX6_arrived_15 fl_X6_9 hr.1 rfl ?_
  refine x_alenJ dX6_arrived_18 hr.2 (by omega) ?_
  refine x_icmp_lt 26 dX6_arrived_19 (by decide) (fun c_19 => ?_) (fun c_19 => (by exfalso; omega))
  refine x_aload_n 1 dX6_arrived_26 rfl rfl ?_
  refine x_get 0 dX6_arrived_27 fl_X6_9 hr.1 rfl ?_
  refine x_iload_n 0 dX6_arrived_30 rfl rfl ?_
  refine x_laload dX6_arrived_31 hr.2 (by omega) (by omega) ?_
  exact x_lreturn dX6_arrived_32 rfl (by decide) (by decide) (retJ (by rw [← hro.arr ht0, e_x1]))
set_option maxRecDepth 100000 in
set_option maxHeartbeats 4000000 in
theorem k_X6_passed {G : aG} {d : Nat} (hd : 2 ≤ d) {h : aH} {r cr : Nat} {n : Int} {cm : Nat → Int} (hr : RunAt h r cr n cm) {sm : Nat → Int} (hro : RunOk n sm cm) {c ci a : Nat} {T D C ld : Int} {am : Nat → Int} (hcv : CvAt h c ci a T D C am ld) (hok : CvOk T D C am) {t : Int} (ht0 : 0 ≤ t) (ht : t ≤ 2000) : MC G mX6_passed d 0 0 [vA r, vA c, vI t] h (Ret (vJ (servS n sm (cval T D C am) t)) h) := by
  obtain ⟨hT0, hT2, hD0, hD6, hC0, hC1, hA, hM, hW⟩ := id hok
  obtain ⟨⟨hn0, hn6, hsm⟩, hcm⟩ := id hro
  refine MC.of (by decide) (Nat.le_of_ble_eq_true rfl) (fun ok okh => ?_)
  show EX G mX6_passed d 0 0 _ 0 [(0, vA r), (1, vA c), (2, vI t)] [] h 0 0
  refine x_aload_n 0 dX6_passed_0 rfl rfl ?_
  refine x_iload_n 2 dX6_passed_1 rfl rfl ?_
  refine x_callV [vI t] dX6_passed_2 kv_X6_45 rfl rfl hr.1 (by omega) (Nat.le_of_ble_eq_true rfl) (by omega) (by omega) (k_X6_arrived (d := 1) (by omega) hr hro (t := t) (by omega)) (after_ret ?_)
  refine x_nmJ (fun x1 e_x1 => ?_)
  refine x_lstore_n (L' := [(3, vJ x1), (0, vA r), (1, vA c), (2, vI t)]) dX6_passed_5 rfl (Nat.le_of_ble_eq_true rfl) rfl ?_
  refine x_iconst dX6_passed_6 (okI_c rfl) ?_
  refine x_istore (L' := [(5, vI 0), (3, vJ x1), (0, vA r), (1, vA c), (2, vI t)]) dX6_passed_7 (Nat.le_of_ble_eq_true rfl) rfl ?_
  have loop_9 : ∀ (k_9 : Nat) (w : Int) (s : Int) , (min t n + 1 - s).toNat < k_9 → 0 ≤ s → s ≤ min t n + 1 → w = minS (fun s => arrS n sm s + (cval T D C am) (t - s)) (arrS n sm t) s.toNat → EX G mX6_passed d 0 0 (Ret (vJ (servS n sm (cval T D C am) t)) h) 9 [(0, vA r), (1, vA c), (2, vI t), (3, vJ w), (5, vI s)] [] h 0 0 := by
    intro k_9
    induction k_9 with
    | zero => intro w s hm; exact absurd hm (Nat.not_lt_zero _)
    | succ k_9 ih_9 =>
      intro w s hm_9 hs0 hs1 hw
      refine x_iload 4 dX6_passed_9 rfl ?_
      refine x_iload_n 2 dX6_passed_11 rfl rfl ?_
      refine x_icmp_gt 50 dX6_passed_12 (by decide) (fun c_12 => ?_) (fun c_12 => ?_)
      · refine x_lload_n 3 dX6_passed_50 rfl rfl ?_
        exact x_lreturn dX6_passed_51 rfl (by decide) (by decide) (retJ (by rw [serv_cut hro.1 (cval_M hok) ht0, hw]; congr 1; omega))
      · refine x_iload 4 dX6_passed_15 rfl ?_
        refine x_aload_n 0 dX6_passed_17 rfl rfl ?_
        refine x_get 1 dX6_passed_18 fl_X6_15 hr.1 rfl ?_
        refine x_icmp_gt 50 dX6_passed_21 (by decide) (fun c_21 => ?_) (fun c_21 => ?_)
        · refine x_lload_n 3 dX6_passed_50 rfl rfl ?_
          exact x_lreturn dX6_passed_51 rfl (by decide) (by decide) (retJ (by rw [serv_cut hro.1 (cval_M hok) ht0, hw]; congr 1; omega))
        · refine x_lload_n 3 dX6_passed_24 rfl rfl ?_
          refine x_aload_n 0 dX6_passed_25 rfl rfl ?_
          refine x_iload 4 dX6_passed_26 rfl ?_
          refine x_callV [vI s] dX6_passed_28 kv_X6_45 rfl rfl hr.1 (by omega) (Nat.le_of_ble_eq_true rfl) (by omega) (by omega) (k_X6_arrived (d := 1) (by omega) hr hro (t := s) (by omega)) (after_ret ?_)
          refine x_aload_n 1 dX6_passed_31 rfl rfl ?_
          refine x_iload_n 2 dX6_passed_32 rfl rfl ?_
          refine x_iload 4 dX6_passed_33 rfl ?_
          refine x_isub dX6_passed_35 (by unfold okI; omega) ?_
          refine x_callU [vI (t - s)] dX6_passed_36 (ku_X6_23 _ hcv.2.2) rfl rfl hcv.1 (by omega) (Nat.le_of_ble_eq_true rfl) (by omega) (by omega) (k_X1_amount (d := 0) hcv hok (t := t - s) (by omega)) (after_ret ?_)
          have b1 := arr_top (t := s) hro.1 hs0
          have b2 := cval_nn hok (show 0 ≤ t - s by omega)
          have b3 := cval_top hok (show 0 ≤ t - s by omega)
          refine x_ladd dX6_passed_39 (by unfold okJ; omega) ?_
          refine x_minJ dX6_passed_40 km_X6_48 (by omega) (Nat.le_of_ble_eq_true rfl) (by omega) (by omega) ?_
          refine x_nmJ (fun x2 e_x2 => ?_)
          refine x_lstore_n (L' := [(3, vJ x2), (0, vA r), (1, vA c), (2, vI t), (5, vI s)]) dX6_passed_43 rfl (Nat.le_of_ble_eq_true rfl) rfl ?_
          refine x_iinc 4 (L' := [(5, vI (s + 1)), (3, vJ x2), (0, vA r), (1, vA c), (2, vI t)]) dX6_passed_44 rfl (by unfold okI; omega) (Nat.le_of_ble_eq_true rfl) rfl ?_
          refine x_goto 9 dX6_passed_47 (by decide) ?_
          exact EX.pick [2, 3, 4, 1, 0] rfl (ih_9 x2 (s + 1)  (by omega) (by omega) (by omega) (by rw [minS_s hs0, ← hw, e_x2]))
  exact EX.pick [2, 3, 4, 1, 0] rfl (loop_9 ((min t n + 1 - (0 : Int)).toNat + 1) x1 0  (Nat.lt_succ_self _) (by omega) (by omega) (by rw [e_x1]; rfl))
set_option maxRecDepth 100000 in
set_option maxHeartbeats 4000000 in
theorem k_X6_held {G : aG} {d : Nat} (hd : 3 ≤ d) {h : aH} {r cr : Nat} {n : Int} {cm : Nat → Int} (hr : RunAt h r cr n cm) {sm : Nat → Int} (hro : RunOk n sm cm) {c ci a : Nat} {T D C ld : Int} {am : Nat → Int} (hcv : CvAt h c ci a T D C am ld) (hok : CvOk T D C am) {t : Int} (ht0 : 0 ≤ t) (ht : t ≤ 2000) : MC G mX6_held d 0 0 [vA r, vA c, vI t] h (Ret (vJ (arrS n sm t - servS n sm (cval T D C am) t)) h) := by
  obtain ⟨hT0, hT2, hD0, hD6, hC0, hC1, hA, hM, hW⟩ := id hok
  obtain ⟨⟨hn0, hn6, hsm⟩, hcm⟩ := id hro
  refine MC.of (by decide) (Nat.le_of_ble_eq_true rfl) (fun ok okh => ?_)
  show EX G mX6_held d 0 0 _ 0 [(0, vA r), (1, vA c), (2, vI t)] [] h 0 0
  refine x_aload_n 0 dX6_held_0 rfl rfl ?_
  refine x_iload_n 2 dX6_held_1 rfl rfl ?_
  refine x_callV [vI t] dX6_held_2 kv_X6_45 rfl rfl hr.1 (by omega) (Nat.le_of_ble_eq_true rfl) (by omega) (by omega) (k_X6_arrived (d := 1) (by omega) hr hro (t := t) (by omega)) (after_ret ?_)
  refine x_aload_n 0 dX6_held_5 rfl rfl ?_
  refine x_aload_n 1 dX6_held_6 rfl rfl ?_
  refine x_iload_n 2 dX6_held_7 rfl rfl ?_
  refine x_callV [vA c, vI t] dX6_held_8 kv_X6_51 rfl rfl hr.1 (by omega) (Nat.le_of_ble_eq_true rfl) (by omega) (by omega) (k_X6_passed (d := 2) (by omega) hr hro hcv hok (t := t) (by omega) (by omega)) (after_ret ?_)
  have b1 := arr_top (t := t) hro.1 ht0
  have b2 := serv_top (t := t) hro.1 (cval_M hok) ht0
  refine x_lsub dX6_held_11 (by unfold okJ; omega) ?_
  exact x_lreturn dX6_held_12 rfl (by decide) (by decide) ⟨rfl, rfl⟩
set_option maxRecDepth 100000 in
set_option maxHeartbeats 4000000 in
theorem k_X6_lateness {G : aG} {d : Nat} (hd : 3 ≤ d) {h : aH} {r cr : Nat} {n : Int} {cm : Nat → Int} (hr : RunAt h r cr n cm) {sm : Nat → Int} (hro : RunOk n sm cm) {c ci a : Nat} {T D C ld : Int} {am : Nat → Int} (hcv : CvAt h c ci a T D C am ld) (hok : CvOk T D C am) {t : Int} (ht0 : 0 ≤ t) (ht : t ≤ 100) : MC G mX6_lateness d 0 0 [vA r, vA c, vI t] h (Ret (vI (lateS n sm (cval T D C am) t)) h) := by
  obtain ⟨hT0, hT2, hD0, hD6, hC0, hC1, hA, hM, hW⟩ := id hok
  obtain ⟨⟨hn0, hn6, hsm⟩, hcm⟩ := id hro
  refine MC.of (by decide) (Nat.le_of_ble_eq_true rfl) (fun ok okh => ?_)
  show EX G mX6_lateness d 0 0 _ 0 [(0, vA r), (1, vA c), (2, vI t)] [] h 0 0
  refine x_aload_n 0 dX6_lateness_0 rfl rfl ?_
  refine x_iload_n 2 dX6_lateness_1 rfl rfl ?_
  refine x_callV [vI t] dX6_lateness_2 kv_X6_45 rfl rfl hr.1 (by omega) (Nat.le_of_ble_eq_true rfl) (by omega) (by omega) (k_X6_arrived (d := 1) (by omega) hr hro (t := t) (by omega)) (after_ret ?_)
  refine x_nmJ (fun x1 e_x1 => ?_)
  refine x_lstore_n (L' := [(3, vJ x1), (0, vA r), (1, vA c), (2, vI t)]) dX6_lateness_5 rfl (Nat.le_of_ble_eq_true rfl) rfl ?_
  refine x_iconst dX6_lateness_6 (okI_c rfl) ?_
  refine x_istore (L' := [(5, vI ((-1))), (3, vJ x1), (0, vA r), (1, vA c), (2, vI t)]) dX6_lateness_7 (Nat.le_of_ble_eq_true rfl) rfl ?_
  refine x_bipush dX6_lateness_9 (okI_c rfl) (by decide +kernel) ?_
  refine x_istore (L' := [(6, vI 8), (5, vI ((-1))), (3, vJ x1), (0, vA r), (1, vA c), (2, vI t)]) dX6_lateness_11 (Nat.le_of_ble_eq_true rfl) rfl ?_
  have loop_13 : ∀ (k_13 : Nat) (u : Int) (b : Int) , (b + 1).toNat < k_13 → -1 ≤ u → u ≤ 500 → -1 ≤ b → b ≤ 8 → (∀ w : Int, 0 ≤ w → w ≤ u → servS n sm (cval T D C am) (t + w) < arrS n sm t) → (∀ w : Int, u + 2 ^ (b + 1).toNat ≤ w → w ≤ 500 → arrS n sm t ≤ servS n sm (cval T D C am) (t + w)) → EX G mX6_lateness d 0 0 (Ret (vI (lateS n sm (cval T D C am) t)) h) 13 [(0, vA r), (1, vA c), (2, vI t), (3, vJ x1), (5, vI u), (6, vI b)] [] h 0 0 := by
    intro k_13
    induction k_13 with
    | zero => intro u b hm; exact absurd hm (Nat.not_lt_zero _)
    | succ k_13 ih_13 =>
      intro u b hm_13 hu0 hul hb0 hb1 hlo hhi
      refine x_iload 5 dX6_lateness_13 rfl ?_
      refine x_if_lt 59 dX6_lateness_15 (by decide) (fun c_15 => ?_) (fun c_15 => ?_)
      · have hps : (2 : Int) ^ (b + 1).toNat = 1 := by rw [show (b + 1).toNat = 0 by omega]; rfl
        refine x_iload 4 dX6_lateness_59 rfl ?_
        refine x_sipush dX6_lateness_61 (okI_c rfl) (by decide +kernel) ?_
        refine x_icmp_ge 74 dX6_lateness_64 (by decide) (fun c_64 => ?_) (fun c_64 => ?_)
        · refine x_iconst dX6_lateness_74 (okI_c rfl) ?_
          exact x_ireturn dX6_lateness_75 rfl (by decide) (by decide) (retI (First.eq (Or.inl ⟨rfl, fun w q1 q2 => hlo w q1 (by omega)⟩)))
        · refine x_iload 4 dX6_lateness_67 rfl ?_
          refine x_iconst dX6_lateness_69 (okI_c rfl) ?_
          refine x_iadd dX6_lateness_70 (by unfold okI; omega) ?_
          refine x_goto 75 dX6_lateness_71 (by decide) ?_
          exact x_ireturn dX6_lateness_75 rfl (by decide) (by decide) (retI (First.eq (Or.inr ⟨by omega, by omega, hhi _ (by omega) (by omega), fun w q1 q2 => hlo w q1 (by omega)⟩)))
      · refine x_iload 4 dX6_lateness_18 rfl ?_
        refine x_iconst dX6_lateness_20 (okI_c rfl) ?_
        refine x_iload 5 dX6_lateness_21 rfl ?_
        refine x_ishl (v := 2 ^ b.toNat) dX6_lateness_23 (by have := pow_le (b := b) (by omega) (by omega); unfold okI; omega) (shl1 (by omega) (by omega)) ?_
        have hpw := pow_le (b := b) (by omega) (by omega)
        have hps := pow_s (b := b) (by omega)
        refine x_iadd dX6_lateness_24 (by unfold okI; omega) ?_
        refine x_nmI (fun x2 e_x2 => ?_)
        refine x_istore (L' := [(7, vI x2), (0, vA r), (1, vA c), (2, vI t), (3, vJ x1), (5, vI u), (6, vI b)]) dX6_lateness_25 (Nat.le_of_ble_eq_true rfl) rfl ?_
        refine x_iload 0 dX6_lateness_27 rfl ?_
        refine x_sipush dX6_lateness_29 (okI_c rfl) (by decide +kernel) ?_
        refine x_icmp_gt 53 dX6_lateness_32 (by decide) (fun c_32 => ?_) (fun c_32 => ?_)
        · refine x_iinc 6 (L' := [(6, vI (b + (-1))), (7, vI x2), (0, vA r), (1, vA c), (2, vI t), (3, vJ x1), (5, vI u)]) dX6_lateness_53 rfl (by unfold okI; omega) (Nat.le_of_ble_eq_true rfl) rfl ?_
          refine x_goto 13 dX6_lateness_56 (by decide) ?_
          exact EX.pick [2, 3, 4, 5, 6, 0] rfl (ih_13 u (b + (-1))  (by omega) (by omega) (by omega) (by omega) (by omega) (fun w q1 q2 => hlo w q1 q2) (fun w q1 q2 => by rw [show b + -1 + 1 = b by omega] at q1; first | omega | (have := serv_mono hro.1 (cval_M hok) (show 0 ≤ t + x2 by omega) (show t + x2 ≤ t + w by omega); omega)))
        · refine x_aload_n 1 dX6_lateness_35 rfl rfl ?_
          refine x_aload_n 2 dX6_lateness_36 rfl rfl ?_
          refine x_iload_n 3 dX6_lateness_37 rfl rfl ?_
          refine x_iload 0 dX6_lateness_38 rfl ?_
          refine x_iadd dX6_lateness_40 (by unfold okI; omega) ?_
          refine x_callV [vA c, vI (t + x2)] dX6_lateness_41 kv_X6_51 rfl rfl hr.1 (by omega) (Nat.le_of_ble_eq_true rfl) (by omega) (by omega) (k_X6_passed (d := 2) (by omega) hr hro hcv hok (t := t + x2) (by omega) (by omega)) (after_ret ?_)
          refine x_lload_n 4 dX6_lateness_44 rfl rfl ?_
          refine x_lc_ge 53 dX6_lateness_45 dX6_lateness_46 (by decide) (fun c_45 => ?_) (fun c_45 => ?_)
          · refine x_iinc 6 (L' := [(6, vI (b + (-1))), (7, vI x2), (0, vA r), (1, vA c), (2, vI t), (3, vJ x1), (5, vI u)]) dX6_lateness_53 rfl (by unfold okI; omega) (Nat.le_of_ble_eq_true rfl) rfl ?_
            refine x_goto 13 dX6_lateness_56 (by decide) ?_
            exact EX.pick [2, 3, 4, 5, 6, 0] rfl (ih_13 u (b + (-1))  (by omega) (by omega) (by omega) (by omega) (by omega) (fun w q1 q2 => hlo w q1 q2) (fun w q1 q2 => by rw [show b + -1 + 1 = b by omega] at q1; first | omega | (have := serv_mono hro.1 (cval_M hok) (show 0 ≤ t + x2 by omega) (show t + x2 ≤ t + w by omega); omega)))
          · refine x_iload 0 dX6_lateness_49 rfl ?_
            refine x_istore (L' := [(5, vI x2), (7, vI x2), (0, vA r), (1, vA c), (2, vI t), (3, vJ x1), (6, vI b)]) dX6_lateness_51 (Nat.le_of_ble_eq_true rfl) rfl ?_
            refine x_iinc 6 (L' := [(6, vI (b + (-1))), (5, vI x2), (7, vI x2), (0, vA r), (1, vA c), (2, vI t), (3, vJ x1)]) dX6_lateness_53 rfl (by unfold okI; omega) (Nat.le_of_ble_eq_true rfl) rfl ?_
            refine x_goto 13 dX6_lateness_56 (by decide) ?_
            exact EX.pick [3, 4, 5, 6, 1, 0] rfl (ih_13 x2 (b + (-1))  (by omega) (by omega) (by omega) (by omega) (by omega) (fun w q1 q2 => by by_cases q : w ≤ u; exact hlo w q1 q; have := serv_mono hro.1 (cval_M hok) (show 0 ≤ t + w by omega) (show t + w ≤ t + x2 by omega); omega) (fun w q1 q2 => hhi w (by rw [show b + -1 + 1 = b by omega] at q1; omega) q2))
  exact EX.pick [3, 4, 5, 2, 1, 0] rfl (loop_13 (((8 : Int) + 1).toNat + 1) (-1) 8  (Nat.lt_succ_self _) (by omega) (by omega) (by omega) (by omega) (fun w q1 q2 => by omega) (fun w q1 q2 => by have : ((2 : Int) ^ (8 + 1 : Int).toNat) = 512 := (by decide); omega))
set_option maxRecDepth 100000 in
set_option maxHeartbeats 4000000 in
theorem k_X6_greatestHeld {G : aG} {d : Nat} (hd : 4 ≤ d) {h : aH} {r cr : Nat} {n : Int} {cm : Nat → Int} (hr : RunAt h r cr n cm) {sm : Nat → Int} (hro : RunOk n sm cm) {c ci a : Nat} {T D C ld : Int} {am : Nat → Int} (hcv : CvAt h c ci a T D C am ld) (hok : CvOk T D C am) : MC G mX6_greatestHeld d 0 0 [vA r, vA c] h (Ret (vJ (sup0 (fun t => arrS n sm t - servS n sm (cval T D C am) t) (n + 1).toNat)) h) := by
  obtain ⟨hT0, hT2, hD0, hD6, hC0, hC1, hA, hM, hW⟩ := id hok
  obtain ⟨⟨hn0, hn6, hsm⟩, hcm⟩ := id hro
  refine MC.of (by decide) (Nat.le_of_ble_eq_true rfl) (fun ok okh => ?_)
  show EX G mX6_greatestHeld d 0 0 _ 0 [(0, vA r), (1, vA c)] [] h 0 0
  refine x_lconst (x := 0) dX6_greatestHeld_0 (okJ_c rfl) rfl ?_
  refine x_lstore_n (L' := [(2, vJ 0), (0, vA r), (1, vA c)]) dX6_greatestHeld_1 rfl (Nat.le_of_ble_eq_true rfl) rfl ?_
  refine x_iconst dX6_greatestHeld_2 (okI_c rfl) ?_
  refine x_istore (L' := [(4, vI 0), (2, vJ 0), (0, vA r), (1, vA c)]) dX6_greatestHeld_3 (Nat.le_of_ble_eq_true rfl) rfl ?_
  have loop_5 : ∀ (k_5 : Nat) (w : Int) (t : Int) , (n + 1 - t).toNat < k_5 → 0 ≤ t → t ≤ n + 1 → w = sup0 (fun t => arrS n sm t - servS n sm (cval T D C am) t) t.toNat → EX G mX6_greatestHeld d 0 0 (Ret (vJ (sup0 (fun t => arrS n sm t - servS n sm (cval T D C am) t) (n + 1).toNat)) h) 5 [(0, vA r), (1, vA c), (2, vJ w), (4, vI t)] [] h 0 0 := by
    intro k_5
    induction k_5 with
    | zero => intro w t hm; exact absurd hm (Nat.not_lt_zero _)
    | succ k_5 ih_5 =>
      intro w t hm_5 ht0 ht1 hw
      refine x_iload 3 dX6_greatestHeld_5 rfl ?_
      refine x_aload_n 0 dX6_greatestHeld_7 rfl rfl ?_
      refine x_get 1 dX6_greatestHeld_8 fl_X6_15 hr.1 rfl ?_
      refine x_icmp_gt 32 dX6_greatestHeld_11 (by decide) (fun c_11 => ?_) (fun c_11 => ?_)
      · refine x_lload_n 2 dX6_greatestHeld_32 rfl rfl ?_
        exact x_lreturn dX6_greatestHeld_33 rfl (by decide) (by decide) (retJ (by rw [hw]; congr 1; omega))
      · refine x_lload_n 2 dX6_greatestHeld_14 rfl rfl ?_
        refine x_aload_n 0 dX6_greatestHeld_15 rfl rfl ?_
        refine x_aload_n 1 dX6_greatestHeld_16 rfl rfl ?_
        refine x_iload 3 dX6_greatestHeld_17 rfl ?_
        refine x_callV [vA c, vI t] dX6_greatestHeld_19 kv_X6_54 rfl rfl hr.1 (by omega) (Nat.le_of_ble_eq_true rfl) (by omega) (by omega) (k_X6_held (d := 3) (by omega) hr hro hcv hok (t := t) (by omega) (by omega)) (after_ret ?_)
        refine x_maxJ dX6_greatestHeld_22 km_X6_57 (by omega) (Nat.le_of_ble_eq_true rfl) (by omega) (by omega) ?_
        refine x_nmJ (fun x1 e_x1 => ?_)
        refine x_lstore_n (L' := [(2, vJ x1), (0, vA r), (1, vA c), (4, vI t)]) dX6_greatestHeld_25 rfl (Nat.le_of_ble_eq_true rfl) rfl ?_
        refine x_iinc 3 (L' := [(4, vI (t + 1)), (2, vJ x1), (0, vA r), (1, vA c)]) dX6_greatestHeld_26 rfl (by unfold okI; omega) (Nat.le_of_ble_eq_true rfl) rfl ?_
        refine x_goto 5 dX6_greatestHeld_29 (by decide) ?_
        exact EX.pick [2, 3, 1, 0] rfl (ih_5 x1 (t + 1)  (by omega) (by omega) (by omega) (by rw [sup0_s ht0, ← hw, e_x1]))
  exact EX.pick [2, 3, 1, 0] rfl (loop_5 ((n + 1 - (0 : Int)).toNat + 1) 0 0  (Nat.lt_succ_self _) (by omega) (by omega) rfl)
theorem mostLateS_t {n : Int} {sm : Nat → Int} {G : Int → Int} (h : ∀ t : Int, 0 ≤ t → t ≤ n → lateS n sm G t ≠ -1) : mostLateS n sm G = sup0 (lateS n sm G) (n + 1).toNat := by rw [mostLateS, if_pos h]
theorem mostLateS_f {n t : Int} {sm : Nat → Int} {G : Int → Int} (h0 : 0 ≤ t) (h1 : t ≤ n) (h : lateS n sm G t = -1) : mostLateS n sm G = -1 := by rw [mostLateS, if_neg (fun q => q t h0 h1 h)]
theorem late_le (n : Int) (sm : Nat → Int) (G : Int → Int) (t : Int) : -1 ≤ lateS n sm G t ∧ lateS n sm G t ≤ 500 := by
  rcases firstS_spec (fun w => servS n sm G (t + w)) (arrS n sm t) 500 with ⟨q, _⟩ | ⟨q1, q2, _⟩
  · have e : lateS n sm G t = -1 := q
    omega
  · exact ⟨by show -1 ≤ firstS _ _ _; omega, q2⟩
set_option maxRecDepth 100000 in
set_option maxHeartbeats 4000000 in
theorem k_X6_greatestLateness {G : aG} {d : Nat} (hd : 4 ≤ d) {h : aH} {r cr : Nat} {n : Int} {cm : Nat → Int} (hr : RunAt h r cr n cm) {sm : Nat → Int} (hro : RunOk n sm cm) {c ci a : Nat} {T D C ld : Int} {am : Nat → Int} (hcv : CvAt h c ci a T D C am ld) (hok : CvOk T D C am) : MC G mX6_greatestLateness d 0 0 [vA r, vA c] h (Ret (vI (mostLateS n sm (cval T D C am))) h) := by
  obtain ⟨hT0, hT2, hD0, hD6, hC0, hC1, hA, hM, hW⟩ := id hok
  obtain ⟨⟨hn0, hn6, hsm⟩, hcm⟩ := id hro
  refine MC.of (by decide) (Nat.le_of_ble_eq_true rfl) (fun ok okh => ?_)
  show EX G mX6_greatestLateness d 0 0 _ 0 [(0, vA r), (1, vA c)] [] h 0 0
  refine x_iconst dX6_greatestLateness_0 (okI_c rfl) ?_
  refine x_istore_n (L' := [(2, vI 0), (0, vA r), (1, vA c)]) dX6_greatestLateness_1 rfl (Nat.le_of_ble_eq_true rfl) rfl ?_
  refine x_iconst dX6_greatestLateness_2 (okI_c rfl) ?_
  refine x_istore_n (L' := [(3, vI 0), (2, vI 0), (0, vA r), (1, vA c)]) dX6_greatestLateness_3 rfl (Nat.le_of_ble_eq_true rfl) rfl ?_
  have loop_4 : ∀ (k_4 : Nat) (w : Int) (t : Int) , (n + 1 - t).toNat < k_4 → 0 ≤ t → t ≤ n + 1 → (∀ y : Int, 0 ≤ y → y < t → lateS n sm (cval T D C am) y ≠ -1) → w = sup0 (lateS n sm (cval T D C am)) t.toNat → w ≤ 500 → EX G mX6_greatestLateness d 0 0 (Ret (vI (mostLateS n sm (cval T D C am))) h) 4 [(0, vA r), (1, vA c), (2, vI w), (3, vI t)] [] h 0 0 := by
    intro k_4
    induction k_4 with
    | zero => intro w t hm; exact absurd hm (Nat.not_lt_zero _)
    | succ k_4 ih_4 =>
      intro w t hm_4 ht0 ht1 hall hw hw0
      refine x_iload_n 3 dX6_greatestLateness_4 rfl rfl ?_
      refine x_aload_n 0 dX6_greatestLateness_5 rfl rfl ?_
      refine x_get 1 dX6_greatestLateness_6 fl_X6_15 hr.1 rfl ?_
      refine x_icmp_gt 41 dX6_greatestLateness_9 (by decide) (fun c_9 => ?_) (fun c_9 => ?_)
      · refine x_iload_n 2 dX6_greatestLateness_41 rfl rfl ?_
        exact x_ireturn dX6_greatestLateness_42 rfl (by decide) (by decide) (retI (by rw [mostLateS_t (fun y q1 q2 => hall y q1 (by omega)), hw]; congr 1; omega))
      · refine x_aload_n 0 dX6_greatestLateness_12 rfl rfl ?_
        refine x_aload_n 1 dX6_greatestLateness_13 rfl rfl ?_
        refine x_iload_n 3 dX6_greatestLateness_14 rfl rfl ?_
        refine x_callV [vA c, vI t] dX6_greatestLateness_15 kv_X6_60 rfl rfl hr.1 (by omega) (Nat.le_of_ble_eq_true rfl) (by omega) (by omega) (k_X6_lateness (d := 3) (by omega) hr hro hcv hok (t := t) (by omega) (by omega)) (after_ret ?_)
        refine x_nmI (fun x1 e_x1 => ?_)
        refine x_istore (L' := [(4, vI x1), (0, vA r), (1, vA c), (2, vI w), (3, vI t)]) dX6_greatestLateness_18 (Nat.le_of_ble_eq_true rfl) rfl ?_
        refine x_iload 0 dX6_greatestLateness_20 rfl ?_
        refine x_iconst dX6_greatestLateness_22 (okI_c rfl) ?_
        refine x_icmp_ne 28 dX6_greatestLateness_23 (by decide) (fun c_23 => ?_) (fun c_23 => ?_)
        · refine x_iload_n 3 dX6_greatestLateness_28 rfl rfl ?_
          refine x_iload 0 dX6_greatestLateness_29 rfl ?_
          refine x_maxI dX6_greatestLateness_31 km_X6_64 (by omega) (Nat.le_of_ble_eq_true rfl) (by omega) (by omega) ?_
          refine x_nmI (fun x2 e_x2 => ?_)
          refine x_istore_n (L' := [(2, vI x2), (4, vI x1), (0, vA r), (1, vA c), (3, vI t)]) dX6_greatestLateness_34 rfl (Nat.le_of_ble_eq_true rfl) rfl ?_
          refine x_iinc 4 (L' := [(3, vI (t + 1)), (2, vI x2), (4, vI x1), (0, vA r), (1, vA c)]) dX6_greatestLateness_35 rfl (by unfold okI; omega) (Nat.le_of_ble_eq_true rfl) rfl ?_
          refine x_goto 4 dX6_greatestLateness_38 (by decide) ?_
          have hle := late_le n sm (cval T D C am) t
          exact EX.pick [3, 4, 1, 0] rfl (ih_4 x2 (t + 1)  (by omega) (by omega) (by omega) (fun y q1 q2 => by by_cases q : y < t; exact hall y q1 q; have e : y = t := (by omega); rw [e, ← e_x1]; exact c_23) (by rw [sup0_s ht0, ← hw, ← e_x1, e_x2]) (by omega))
        · refine x_iconst dX6_greatestLateness_26 (okI_c rfl) ?_
          exact x_ireturn dX6_greatestLateness_27 rfl (by decide) (by decide) (retI (mostLateS_f ht0 (by omega) (by omega)).symm)
  exact EX.pick [2, 3, 1, 0] rfl (loop_4 ((n + 1 - (0 : Int)).toNat + 1) 0 0  (Nat.lt_succ_self _) (by omega) (by omega) (fun y q1 q2 => by omega) rfl (by omega))
set_option maxRecDepth 100000 in
set_option maxHeartbeats 4000000 in
theorem k_X6_staysWithin {G : aG} {d : Nat} (hd : 2 ≤ d) {h : aH} {r cr : Nat} {n : Int} {cm : Nat → Int} (hr : RunAt h r cr n cm) {sm : Nat → Int} (hro : RunOk n sm cm) {c ci a : Nat} {T D C ld : Int} {am : Nat → Int} (hcv : CvAt h c ci a T D C am ld) (hok : CvOk T D C am) : MC G mX6_staysWithin d 0 0 [vA r, vA c] h (Ret (vI (b2i (keepsS n sm (cval T D C am)))) h) := by
  obtain ⟨hT0, hT2, hD0, hD6, hC0, hC1, hA, hM, hW⟩ := id hok
  obtain ⟨⟨hn0, hn6, hsm⟩, hcm⟩ := id hro
  refine MC.of (by decide) (Nat.le_of_ble_eq_true rfl) (fun ok okh => ?_)
  show EX G mX6_staysWithin d 0 0 _ 0 [(0, vA r), (1, vA c)] [] h 0 0
  refine x_iconst dX6_staysWithin_0 (okI_c rfl) ?_
  refine x_istore_n (L' := [(2, vI 0), (0, vA r), (1, vA c)]) dX6_staysWithin_1 rfl (Nat.le_of_ble_eq_true rfl) rfl ?_
  have loop_2 : ∀ (k_2 : Nat) (t : Int) , (n + 1 - t).toNat < k_2 → 0 ≤ t → t ≤ n + 1 → (∀ x y : Int, 0 ≤ y → y ≤ x → x < t → arrS n sm x - arrS n sm y ≤ (cval T D C am) (x - y)) → EX G mX6_staysWithin d 0 0 (Ret (vI (b2i (keepsS n sm (cval T D C am)))) h) 2 [(0, vA r), (1, vA c), (2, vI t)] [] h 0 0 := by
    intro k_2
    induction k_2 with
    | zero => intro t hm; exact absurd hm (Nat.not_lt_zero _)
    | succ k_2 ih_2 =>
      intro t hm_2 ht0 ht1 hall
      refine x_iload_n 2 dX6_staysWithin_2 rfl rfl ?_
      refine x_aload_n 0 dX6_staysWithin_3 rfl rfl ?_
      refine x_get 1 dX6_staysWithin_4 fl_X6_15 hr.1 rfl ?_
      refine x_icmp_gt 53 dX6_staysWithin_7 (by decide) (fun c_7 => ?_) (fun c_7 => ?_)
      · refine x_iconst dX6_staysWithin_53 (okI_c rfl) ?_
        exact x_zreturn dX6_staysWithin_54 rfl (Or.inr rfl) (by decide) (by decide) (retI (b2i_t (fun x y q1 q2 q3 => hall x y q1 q2 (by omega))).symm)
      · refine x_iconst dX6_staysWithin_10 (okI_c rfl) ?_
        refine x_istore_n (L' := [(3, vI 0), (0, vA r), (1, vA c), (2, vI t)]) dX6_staysWithin_11 rfl (Nat.le_of_ble_eq_true rfl) rfl ?_
        have loop_12 : ∀ (k_12 : Nat) (s : Int) , (t + 1 - s).toNat < k_12 → 0 ≤ s → s ≤ t + 1 → (∀ y : Int, 0 ≤ y → y < s → arrS n sm t - arrS n sm y ≤ (cval T D C am) (t - y)) → EX G mX6_staysWithin d 0 0 (Ret (vI (b2i (keepsS n sm (cval T D C am)))) h) 12 [(0, vA r), (1, vA c), (2, vI t), (3, vI s)] [] h 0 0 := by
          intro k_12
          induction k_12 with
          | zero => intro s hm; exact absurd hm (Nat.not_lt_zero _)
          | succ k_12 ih_12 =>
            intro s hm_12 hs0 hs1 hin
            refine x_iload_n 3 dX6_staysWithin_12 rfl rfl ?_
            refine x_iload_n 2 dX6_staysWithin_13 rfl rfl ?_
            refine x_icmp_gt 47 dX6_staysWithin_14 (by decide) (fun c_14 => ?_) (fun c_14 => ?_)
            · refine x_iinc 2 (L' := [(2, vI (t + 1)), (0, vA r), (1, vA c), (3, vI s)]) dX6_staysWithin_47 rfl (by unfold okI; omega) (Nat.le_of_ble_eq_true rfl) rfl ?_
              refine x_goto 2 dX6_staysWithin_50 (by decide) ?_
              exact EX.pick [1, 2, 0] rfl (ih_2 (t + 1)  (by omega) (by omega) (by omega) (fun x y q1 q2 q3 => by by_cases q : x < t; exact hall x y q1 q2 q; have e : x = t := (by omega); subst e; exact hin y q1 (by omega)))
            · refine x_aload_n 0 dX6_staysWithin_17 rfl rfl ?_
              refine x_iload_n 2 dX6_staysWithin_18 rfl rfl ?_
              refine x_callV [vI t] dX6_staysWithin_19 kv_X6_45 rfl rfl hr.1 (by omega) (Nat.le_of_ble_eq_true rfl) (by omega) (by omega) (k_X6_arrived (d := 1) (by omega) hr hro (t := t) (by omega)) (after_ret ?_)
              refine x_aload_n 0 dX6_staysWithin_22 rfl rfl ?_
              refine x_iload_n 3 dX6_staysWithin_23 rfl rfl ?_
              refine x_callV [vI s] dX6_staysWithin_24 kv_X6_45 rfl rfl hr.1 (by omega) (Nat.le_of_ble_eq_true rfl) (by omega) (by omega) (k_X6_arrived (d := 1) (by omega) hr hro (t := s) (by omega)) (after_ret ?_)
              have b1 := arr_top (t := t) hro.1 ht0
              have b2 := arr_top (t := s) hro.1 hs0
              refine x_lsub dX6_staysWithin_27 (by unfold okJ; omega) ?_
              refine x_aload_n 1 dX6_staysWithin_28 rfl rfl ?_
              refine x_iload_n 2 dX6_staysWithin_29 rfl rfl ?_
              refine x_iload_n 3 dX6_staysWithin_30 rfl rfl ?_
              refine x_isub dX6_staysWithin_31 (by unfold okI; omega) ?_
              refine x_callU [vI (t - s)] dX6_staysWithin_32 (ku_X6_23 _ hcv.2.2) rfl rfl hcv.1 (by omega) (Nat.le_of_ble_eq_true rfl) (by omega) (by omega) (k_X1_amount (d := 0) hcv hok (t := t - s) (by omega)) (after_ret ?_)
              refine x_lc_le 41 dX6_staysWithin_35 dX6_staysWithin_36 (by decide) (fun c_35 => ?_) (fun c_35 => ?_)
              · refine x_iinc 3 (L' := [(3, vI (s + 1)), (0, vA r), (1, vA c), (2, vI t)]) dX6_staysWithin_41 rfl (by unfold okI; omega) (Nat.le_of_ble_eq_true rfl) rfl ?_
                refine x_goto 12 dX6_staysWithin_44 (by decide) ?_
                exact EX.pick [1, 2, 3, 0] rfl (ih_12 (s + 1)  (by omega) (by omega) (by omega) (fun y q1 q2 => by by_cases q : y < s; exact hin y q1 q; have e : y = s := (by omega); subst e; exact c_35))
              · refine x_iconst dX6_staysWithin_39 (okI_c rfl) ?_
                exact x_zreturn dX6_staysWithin_40 rfl (Or.inl rfl) (by decide) (by decide) (retI (b2i_f (fun q => by have := q t s hs0 (by omega) (by omega); omega)).symm)
        exact EX.pick [1, 2, 3, 0] rfl (loop_12 ((t + 1 - (0 : Int)).toNat + 1) 0  (Nat.lt_succ_self _) (by omega) (by omega) (fun y q1 q2 => by omega))
  exact EX.pick [1, 2, 0] rfl (loop_2 ((n + 1 - (0 : Int)).toNat + 1) 0  (Nat.lt_succ_self _) (by omega) (by omega) (fun x y q1 q2 q3 => by omega))
def Aft (h : aH) (q : Nat) : Prop := h q = none ∧ ∀ b : Nat, (h b).isSome = true → b < q
theorem RunOk.add {n x : Int} {sm cm : Nat → Int} (ok : RunOk n sm cm) (hlt : n < 60) (hx : sm n.toNat = x) (hx0 : 0 ≤ x) (hx1 : x ≤ 1000000000) : RunOk (n + 1) sm (va_up cm (n + 1).toNat (cm n.toNat + x)) := by
  obtain ⟨⟨h0, h1, h2⟩, h3⟩ := ok
  refine ⟨⟨by omega, by omega, fun k q1 q2 => ?_⟩, fun k q1 q2 => ?_⟩
  · by_cases e : k = n
    · subst e; omega
    · exact h2 k q1 (by omega)
  · by_cases e : k = n + 1
    · subst e
      rw [va_up_self, psum_s h0, h3 n h0 (Int.le_refl n), hx]
    · rw [va_up_ne _ _ (by omega)]
      exact h3 k q1 (by omega)
theorem hstep_nn {F : Int → Int} (hF : Mono F) {t : Int} (ht : 1 ≤ t) : 0 ≤ hstep F t := by
  unfold hstep
  by_cases h : t = 1
  · rw [if_pos h]; exact hF.1 1 (by omega)
  · rw [if_neg h]; have := hF.2 (t - 1) t (by omega) (by omega); omega
set_option maxRecDepth 100000 in
set_option maxHeartbeats 4000000 in
theorem k_X6_follow {G : aG} {d : Nat} (hd : 3 ≤ d) {h : aH} {r cr : Nat} {n : Int} {cm : Nat → Int} (hr : RunAt h r cr n cm) {c ci a : Nat} {T D C ld : Int} {am : Nat → Int} (hcv : CvAt h c ci a T D C am ld) (hok : CvOk T D C am) (hcr : c ≠ r) (hacr : a ≠ cr) {n2 : Int} (hn0 : 0 ≤ n2) (hn6 : n2 ≤ 60) (hc0 : cm 0 = 0) (hcf : ∀ t : Int, 1 ≤ t → t ≤ n2 → hstep (cval T D C am) t ≤ 1000000000) : MC G mX6_follow d 0 0 [vA r, vA c, vI n2] h (fun r' h' => r' = none ∧ ∃ cm' : Nat → Int, h' = hset (hset h cr (eJ 61 cm')) r (eO 5 [vA cr, vI n2]) ∧ RunOk n2 (fun k : Nat => hstep (cval T D C am) (k + 1)) cm') := by
  obtain ⟨hT0, hT2, hD0, hD6, hC0, hC1, hA, hM, hW⟩ := id hok
  refine MC.of (by decide) (Nat.le_of_ble_eq_true rfl) (fun ok okh => ?_)
  show EX G mX6_follow d 0 0 _ 0 [(0, vA r), (1, vA c), (2, vI n2)] [] h 0 0
  refine x_aload_n 0 dX6_follow_0 rfl rfl ?_
  refine x_iconst dX6_follow_1 (okI_c rfl) ?_
  refine x_put 1 dX6_follow_2 pu_X6_15 hr.1 rfl rfl (Nat.le_of_ble_eq_true rfl) ?_
  refine x_iconst dX6_follow_5 (okI_c rfl) ?_
  refine x_istore_n (L' := [(3, vI 1), (0, vA r), (1, vA c), (2, vI n2)]) dX6_follow_6 rfl (Nat.le_of_ble_eq_true rfl) rfl ?_
  have loop_7 : ∀ (k_7 : Nat) (t : Int) (cmi : Nat → Int), (n2 + 1 - t).toNat < k_7 → 1 ≤ t → t ≤ n2 + 1 → RunOk (t - 1) (fun k : Nat => hstep (cval T D C am) (k + 1)) cmi → EX G mX6_follow d 0 0 (fun r' h' => r' = none ∧ ∃ cm' : Nat → Int, h' = hset (hset h cr (eJ 61 cm')) r (eO 5 [vA cr, vI n2]) ∧ RunOk n2 (fun k : Nat => hstep (cval T D C am) (k + 1)) cm') 7 [(0, vA r), (1, vA c), (2, vI n2), (3, vI t)] [] (hset (hset h cr (eJ 61 cmi)) r (eO 5 [vA cr, vI (t - 1)])) 0 0 := by
    intro k_7
    induction k_7 with
    | zero => intro t cmi hm; exact absurd hm (Nat.not_lt_zero _)
    | succ k_7 ih_7 =>
      intro t cmi hm_7 ht1 ht2 hri
      refine x_iload_n 3 dX6_follow_7 rfl rfl ?_
      refine x_iload_n 2 dX6_follow_8 rfl rfl ?_
      refine x_icmp_gt 27 dX6_follow_9 (by decide) (fun c_9 => ?_) (fun c_9 => ?_)
      · exact x_return dX6_follow_27 rfl (by decide) (by decide) ⟨rfl, cmi, by rw [show t - 1 = n2 by omega], by rw [show t - 1 = n2 by omega] at hri; exact hri⟩
      · refine x_aload_n 0 dX6_follow_12 rfl rfl ?_
        refine x_aload_n 1 dX6_follow_13 rfl rfl ?_
        refine x_iload_n 3 dX6_follow_14 rfl rfl ?_
        refine x_callS [vA c, vI t] dX6_follow_15 ks_X6_29 rfl rfl (by omega) (Nat.le_of_ble_eq_true rfl) (by omega) (by omega) (k_X6_hardestStep (d := 1) (by omega) (h := (hset (hset h cr (eJ 61 cmi)) r (eO 5 [vA cr, vI (t - 1)]))) ((hcv.keep (neOJ hcv.1 hr.2) hacr).keep hcr (Ne.symm (neOJ hr.1 hcv.2.1))) hok (t := t) (by omega) (by omega)) (after_ret ?_)
        refine x_callV [vJ (hstep (cval T D C am) t)] dX6_follow_18 kv_X6_35 rfl rfl (hset_eq _ _ _) (by omega) (Nat.le_of_ble_eq_true rfl) (by omega) (by omega) (k_X6_add (d := 2) (by omega) (h := (hset (hset h cr (eJ 61 cmi)) r (eO 5 [vA cr, vI (t - 1)]))) ⟨(hset_eq _ _ _), ((hset_ne _ _ (Ne.symm (neOJ hr.1 hr.2))).trans (hset_eq _ _ _))⟩ hri (hstep_nn (cval_M hok) ht1) (hcf t ht1 (by omega)) (by omega)) (after_void ?_)
        refine x_iinc 3 (L' := [(3, vI (t + 1)), (0, vA r), (1, vA c), (2, vI n2)]) dX6_follow_21 rfl (by unfold okI; omega) (Nat.le_of_ble_eq_true rfl) rfl ?_
        refine x_goto 7 dX6_follow_24 (by decide) ?_
        exact EX.pick [1, 2, 3, 0] rfl (x_ash (by rw [show t + 1 - 1 = t - 1 + 1 by omega]; funext b; by_cases q1 : b = cr <;> by_cases q2 : b = r <;> simp [hset, q1, q2]) (ih_7 (t + 1) (va_up cmi (t - 1 + 1).toNat (cmi (t - 1).toNat + hstep (cval T D C am) t)) (by omega) (by omega) (by omega) (by have q := RunOk.add hri (x := hstep (cval T D C am) t) (by omega) (by show hstep (cval T D C am) (((t - 1).toNat : Nat) + 1) = _; congr 1; omega) (hstep_nn (cval_M hok) ht1) (hcf t ht1 (by omega)); rw [show t + 1 - 1 = t - 1 + 1 by omega]; exact q)))
  exact EX.pick [1, 2, 3, 0] rfl (x_ash (by funext b; by_cases q1 : b = cr <;> by_cases q2 : b = r <;> simp [hset, q1, q2, hr.2]) (loop_7 ((n2 + 1 - (1 : Int)).toNat + 1) 1 cm (Nat.lt_succ_self _) (by omega) (by omega) ⟨⟨by omega, by omega, fun k q1 q2 => by omega⟩, fun k q1 q2 => by rw [show k = 0 by omega]; exact hc0⟩))
set_option maxRecDepth 100000 in
set_option maxHeartbeats 4000000 in
theorem k_X6_init {G : aG} {d : Nat} (hd : 1 ≤ d) {h : aH} {r : Nat} (hr : h r = some (eO 5 [vN, vI 0])) : MC G mX6_init d 1 61 [vA r] h (fun r' h' => r' = none ∧ ∃ q : Nat, Aft h q ∧ h' = hset (hset h q (eJ 61 (fun _ => 0))) r (eO 5 [vA q, vI 0])) := by
  refine MC.of (by decide) (Nat.le_of_ble_eq_true rfl) (fun ok okh => ?_)
  show EX G mX6_init d 1 61 _ 0 [(0, vA r)] [] h 0 0
  refine x_aload_n 0 dX6_init_0 rfl rfl ?_
  refine x_objInit dX6_init_1 ko_X6_3 (by omega) (Nat.le_of_ble_eq_true rfl) ?_
  refine x_aload_n 0 dX6_init_4 rfl rfl ?_
  refine x_bipush dX6_init_5 (okI_c rfl) (by decide +kernel) ?_
  refine x_newJ dX6_init_7 (by omega) (by omega) (by omega) (by omega) (fun q n_q l_q => ?_)
  refine x_putF 0 dX6_init_9 rfl pu_X6_9 ((hset_ne _ _ (fun z => by rw [z, n_q] at hr; cases hr)).trans hr) rfl rfl (Nat.le_of_ble_eq_true rfl) ?_
  refine x_aload_n 0 dX6_init_12 rfl rfl ?_
  refine x_iconst dX6_init_13 (okI_c rfl) ?_
  refine x_put 1 dX6_init_14 pu_X6_15 (hset_eq _ _ _) rfl rfl (Nat.le_of_ble_eq_true rfl) ?_
  exact x_return dX6_init_17 rfl (by omega) (by omega) ⟨rfl, q, ⟨n_q, l_q⟩, by rw [hset_hset]; rfl⟩
end
