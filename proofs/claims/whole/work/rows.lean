section
-- ===== PART A: goes FIRST, ahead of the names: the tables' words, and 'selects' of the private methods out of them =====
/-- a private method of a class that the tables say can be made, by its rows of tables_1 -/
def lw_okq (q : MethodName × Nat) : Prop := (q.1.cls ≠ "java/lang/invoke/MethodHandle" ∧ q.1.cls ≠ "java/lang/invoke/VarHandle") ∧ Cond.instantiable q.1.cls q.2 ∈ tables_1 ∧ Cond.privateMethod q.1 ∈ tables_1 ∧ Cond.instanceMethod q.1 ∈ tables_1
theorem lw_p0 : lw_okq (⟨"FlowCurves", "refused", "(I)I"⟩, 10) := ⟨⟨by decide +kernel, by decide +kernel⟩, List.mem_of_getElem? (i := 16) (by decide +kernel), List.mem_of_getElem? (i := 104) (by decide +kernel), List.mem_of_getElem? (i := 105) (by decide +kernel)⟩
theorem lw_p1 : lw_okq (⟨"FlowCurves", "granted", "(I)I"⟩, 10) := ⟨⟨by decide +kernel, by decide +kernel⟩, List.mem_of_getElem? (i := 16) (by decide +kernel), List.mem_of_getElem? (i := 108) (by decide +kernel), List.mem_of_getElem? (i := 109) (by decide +kernel)⟩
theorem lw_p2 : lw_okq (⟨"FlowCurves", "rowComesRound", "(II)Z"⟩, 10) := ⟨⟨by decide +kernel, by decide +kernel⟩, List.mem_of_getElem? (i := 16) (by decide +kernel), List.mem_of_getElem? (i := 129) (by decide +kernel), List.mem_of_getElem? (i := 130) (by decide +kernel)⟩
theorem lw_p3 : lw_okq (⟨"FlowCurves$Maker", "settled", "(II)LFlowCurves$Curve;"⟩, 3) := ⟨⟨by decide +kernel, by decide +kernel⟩, List.mem_of_getElem? (i := 52) (by decide +kernel), List.mem_of_getElem? (i := 137) (by decide +kernel), List.mem_of_getElem? (i := 138) (by decide +kernel)⟩
theorem lw_p4 : lw_okq (⟨"FlowCurves$Maker", "leastStep", "(II)I"⟩, 3) := ⟨⟨by decide +kernel, by decide +kernel⟩, List.mem_of_getElem? (i := 52) (by decide +kernel), List.mem_of_getElem? (i := 141) (by decide +kernel), List.mem_of_getElem? (i := 142) (by decide +kernel)⟩
theorem lw_p5 : lw_okq (⟨"FlowCurves$Maker", "alsoComesRoundBy", "(III)Z"⟩, 3) := ⟨⟨by decide +kernel, by decide +kernel⟩, List.mem_of_getElem? (i := 52) (by decide +kernel), List.mem_of_getElem? (i := 145) (by decide +kernel), List.mem_of_getElem? (i := 146) (by decide +kernel)⟩
theorem lw_p6 : lw_okq (⟨"FlowCurves", "kept", "(LFlowCurves$Curve;)I"⟩, 10) := ⟨⟨by decide +kernel, by decide +kernel⟩, List.mem_of_getElem? (i := 16) (by decide +kernel), List.mem_of_getElem? (i := 253) (by decide +kernel), List.mem_of_getElem? (i := 254) (by decide +kernel)⟩
theorem lw_p7 : lw_okq (⟨"FlowCurves", "curveNumbered", "(I)LFlowCurves$Curve;"⟩, 10) := ⟨⟨by decide +kernel, by decide +kernel⟩, List.mem_of_getElem? (i := 16) (by decide +kernel), List.mem_of_getElem? (i := 269) (by decide +kernel), List.mem_of_getElem? (i := 270) (by decide +kernel)⟩
theorem lw_p8 : lw_okq (⟨"FlowCurves$Maker", "laySideBySide", "(II)V"⟩, 3) := ⟨⟨by decide +kernel, by decide +kernel⟩, List.mem_of_getElem? (i := 52) (by decide +kernel), List.mem_of_getElem? (i := 307) (by decide +kernel), List.mem_of_getElem? (i := 308) (by decide +kernel)⟩
theorem lw_p9 : lw_okq (⟨"FlowCurves$Maker", "layRest", "(I)V"⟩, 3) := ⟨⟨by decide +kernel, by decide +kernel⟩, List.mem_of_getElem? (i := 52) (by decide +kernel), List.mem_of_getElem? (i := 317) (by decide +kernel), List.mem_of_getElem? (i := 318) (by decide +kernel)⟩
theorem lw_p10 : lw_okq (⟨"FlowCurves$Maker", "layBoth", "(III)V"⟩, 3) := ⟨⟨by decide +kernel, by decide +kernel⟩, List.mem_of_getElem? (i := 52) (by decide +kernel), List.mem_of_getElem? (i := 321) (by decide +kernel), List.mem_of_getElem? (i := 322) (by decide +kernel)⟩
theorem lw_p11 : lw_okq (⟨"FlowCurves$Maker", "leastTogether", "(III)J"⟩, 3) := ⟨⟨by decide +kernel, by decide +kernel⟩, List.mem_of_getElem? (i := 52) (by decide +kernel), List.mem_of_getElem? (i := 325) (by decide +kernel), List.mem_of_getElem? (i := 326) (by decide +kernel)⟩
theorem lw_p12 : lw_okq (⟨"FlowCurves$Maker", "layOff", "(II)V"⟩, 3) := ⟨⟨by decide +kernel, by decide +kernel⟩, List.mem_of_getElem? (i := 52) (by decide +kernel), List.mem_of_getElem? (i := 330) (by decide +kernel), List.mem_of_getElem? (i := 331) (by decide +kernel)⟩
theorem lw_p13 : lw_okq (⟨"FlowCurves$Maker", "comesRound", "(IIJ)Z"⟩, 3) := ⟨⟨by decide +kernel, by decide +kernel⟩, List.mem_of_getElem? (i := 52) (by decide +kernel), List.mem_of_getElem? (i := 338) (by decide +kernel), List.mem_of_getElem? (i := 339) (by decide +kernel)⟩
theorem lw_p14 : lw_okq (⟨"FlowCurves", "refusedAmount", "(I)J"⟩, 10) := ⟨⟨by decide +kernel, by decide +kernel⟩, List.mem_of_getElem? (i := 16) (by decide +kernel), List.mem_of_getElem? (i := 366) (by decide +kernel), List.mem_of_getElem? (i := 367) (by decide +kernel)⟩
theorem lw_p15 : lw_okq (⟨"FlowCurves", "grantedAmount", "(J)J"⟩, 10) := ⟨⟨by decide +kernel, by decide +kernel⟩, List.mem_of_getElem? (i := 16) (by decide +kernel), List.mem_of_getElem? (i := 398) (by decide +kernel), List.mem_of_getElem? (i := 399) (by decide +kernel)⟩
def lw_privs_1 : List (MethodName × Nat) := [(⟨"FlowCurves", "refused", "(I)I"⟩, 10), (⟨"FlowCurves", "granted", "(I)I"⟩, 10), (⟨"FlowCurves", "rowComesRound", "(II)Z"⟩, 10), (⟨"FlowCurves$Maker", "settled", "(II)LFlowCurves$Curve;"⟩, 3), (⟨"FlowCurves$Maker", "leastStep", "(II)I"⟩, 3), (⟨"FlowCurves$Maker", "alsoComesRoundBy", "(III)Z"⟩, 3), (⟨"FlowCurves", "kept", "(LFlowCurves$Curve;)I"⟩, 10), (⟨"FlowCurves", "curveNumbered", "(I)LFlowCurves$Curve;"⟩, 10), (⟨"FlowCurves$Maker", "laySideBySide", "(II)V"⟩, 3), (⟨"FlowCurves$Maker", "layRest", "(I)V"⟩, 3), (⟨"FlowCurves$Maker", "layBoth", "(III)V"⟩, 3), (⟨"FlowCurves$Maker", "leastTogether", "(III)J"⟩, 3), (⟨"FlowCurves$Maker", "layOff", "(II)V"⟩, 3), (⟨"FlowCurves$Maker", "comesRound", "(IIJ)Z"⟩, 3), (⟨"FlowCurves", "refusedAmount", "(I)J"⟩, 10), (⟨"FlowCurves", "grantedAmount", "(J)J"⟩, 10)]
theorem lw_r1 : ∀ q ∈ lw_privs_1, lw_okq q := List.forall_mem_cons.mpr ⟨lw_p0, List.forall_mem_cons.mpr ⟨lw_p1, List.forall_mem_cons.mpr ⟨lw_p2, List.forall_mem_cons.mpr ⟨lw_p3, List.forall_mem_cons.mpr ⟨lw_p4, List.forall_mem_cons.mpr ⟨lw_p5, List.forall_mem_cons.mpr ⟨lw_p6, List.forall_mem_cons.mpr ⟨lw_p7, List.forall_mem_cons.mpr ⟨lw_p8, List.forall_mem_cons.mpr ⟨lw_p9, List.forall_mem_cons.mpr ⟨lw_p10, List.forall_mem_cons.mpr ⟨lw_p11, List.forall_mem_cons.mpr ⟨lw_p12, List.forall_mem_cons.mpr ⟨lw_p13, List.forall_mem_cons.mpr ⟨lw_p14, List.forall_mem_cons.mpr ⟨lw_p15, fun _ h => absurd h List.not_mem_nil⟩⟩⟩⟩⟩⟩⟩⟩⟩⟩⟩⟩⟩⟩⟩⟩
theorem lw_p16 : lw_okq (⟨"FlowCurvesModel", "refuse", "(I)I"⟩, 15) := ⟨⟨by decide +kernel, by decide +kernel⟩, List.mem_of_getElem? (i := 605) (by decide +kernel), List.mem_of_getElem? (i := 665) (by decide +kernel), List.mem_of_getElem? (i := 666) (by decide +kernel)⟩
theorem lw_p17 : lw_okq (⟨"FlowCurvesModel", "fine", "(I)I"⟩, 15) := ⟨⟨by decide +kernel, by decide +kernel⟩, List.mem_of_getElem? (i := 605) (by decide +kernel), List.mem_of_getElem? (i := 669) (by decide +kernel), List.mem_of_getElem? (i := 670) (by decide +kernel)⟩
theorem lw_p18 : lw_okq (⟨"FlowCurvesModel", "settle", "(IJ)I"⟩, 15) := ⟨⟨by decide +kernel, by decide +kernel⟩, List.mem_of_getElem? (i := 605) (by decide +kernel), List.mem_of_getElem? (i := 691) (by decide +kernel), List.mem_of_getElem? (i := 692) (by decide +kernel)⟩
theorem lw_p19 : lw_okq (⟨"FlowCurvesModel", "comesRound", "(IJI)Z"⟩, 15) := ⟨⟨by decide +kernel, by decide +kernel⟩, List.mem_of_getElem? (i := 605) (by decide +kernel), List.mem_of_getElem? (i := 695) (by decide +kernel), List.mem_of_getElem? (i := 696) (by decide +kernel)⟩
theorem lw_p20 : lw_okq (⟨"FlowCurvesModel", "kindOf", "(I)I"⟩, 15) := ⟨⟨by decide +kernel, by decide +kernel⟩, List.mem_of_getElem? (i := 605) (by decide +kernel), List.mem_of_getElem? (i := 699) (by decide +kernel), List.mem_of_getElem? (i := 700) (by decide +kernel)⟩
theorem lw_p21 : lw_okq (⟨"FlowCurvesModel", "isCurve", "(I)Z"⟩, 15) := ⟨⟨by decide +kernel, by decide +kernel⟩, List.mem_of_getElem? (i := 605) (by decide +kernel), List.mem_of_getElem? (i := 712) (by decide +kernel), List.mem_of_getElem? (i := 713) (by decide +kernel)⟩
theorem lw_p22 : lw_okq (⟨"FlowCurvesModel", "together", "(II)I"⟩, 15) := ⟨⟨by decide +kernel, by decide +kernel⟩, List.mem_of_getElem? (i := 605) (by decide +kernel), List.mem_of_getElem? (i := 716) (by decide +kernel), List.mem_of_getElem? (i := 717) (by decide +kernel)⟩
theorem lw_p23 : lw_okq (⟨"FlowCurvesModel", "gainIn", "(II)J"⟩, 15) := ⟨⟨by decide +kernel, by decide +kernel⟩, List.mem_of_getElem? (i := 605) (by decide +kernel), List.mem_of_getElem? (i := 723) (by decide +kernel), List.mem_of_getElem? (i := 724) (by decide +kernel)⟩
theorem lw_p24 : lw_okq (⟨"FlowCurvesModel", "make", "(IIII)V"⟩, 15) := ⟨⟨by decide +kernel, by decide +kernel⟩, List.mem_of_getElem? (i := 605) (by decide +kernel), List.mem_of_getElem? (i := 727) (by decide +kernel), List.mem_of_getElem? (i := 728) (by decide +kernel)⟩
theorem lw_p25 : lw_okq (⟨"FlowCurvesModel", "value", "(IJ)J"⟩, 15) := ⟨⟨by decide +kernel, by decide +kernel⟩, List.mem_of_getElem? (i := 605) (by decide +kernel), List.mem_of_getElem? (i := 731) (by decide +kernel), List.mem_of_getElem? (i := 732) (by decide +kernel)⟩
theorem lw_p26 : lw_okq (⟨"FlowCurvesModel", "least", "(III)J"⟩, 15) := ⟨⟨by decide +kernel, by decide +kernel⟩, List.mem_of_getElem? (i := 605) (by decide +kernel), List.mem_of_getElem? (i := 735) (by decide +kernel), List.mem_of_getElem? (i := 736) (by decide +kernel)⟩
theorem lw_p27 : lw_okq (⟨"FlowCurvesModel", "most", "(IIII)J"⟩, 15) := ⟨⟨by decide +kernel, by decide +kernel⟩, List.mem_of_getElem? (i := 605) (by decide +kernel), List.mem_of_getElem? (i := 739) (by decide +kernel), List.mem_of_getElem? (i := 740) (by decide +kernel)⟩
theorem lw_p28 : lw_okq (⟨"FlowCurvesModel", "none", "(I)J"⟩, 15) := ⟨⟨by decide +kernel, by decide +kernel⟩, List.mem_of_getElem? (i := 605) (by decide +kernel), List.mem_of_getElem? (i := 761) (by decide +kernel), List.mem_of_getElem? (i := 762) (by decide +kernel)⟩
theorem lw_p29 : lw_okq (⟨"FlowCurvesModel", "fineLong", "(J)J"⟩, 15) := ⟨⟨by decide +kernel, by decide +kernel⟩, List.mem_of_getElem? (i := 605) (by decide +kernel), List.mem_of_getElem? (i := 766) (by decide +kernel), List.mem_of_getElem? (i := 767) (by decide +kernel)⟩
theorem lw_p30 : lw_okq (⟨"FlowCurvesModel", "isClosed", "(I)Z"⟩, 15) := ⟨⟨by decide +kernel, by decide +kernel⟩, List.mem_of_getElem? (i := 605) (by decide +kernel), List.mem_of_getElem? (i := 775) (by decide +kernel), List.mem_of_getElem? (i := 776) (by decide +kernel)⟩
theorem lw_p31 : lw_okq (⟨"FlowCurvesModel", "latest", "(II)I"⟩, 15) := ⟨⟨by decide +kernel, by decide +kernel⟩, List.mem_of_getElem? (i := 605) (by decide +kernel), List.mem_of_getElem? (i := 787) (by decide +kernel), List.mem_of_getElem? (i := 788) (by decide +kernel)⟩
def lw_privs_2 : List (MethodName × Nat) := [(⟨"FlowCurvesModel", "refuse", "(I)I"⟩, 15), (⟨"FlowCurvesModel", "fine", "(I)I"⟩, 15), (⟨"FlowCurvesModel", "settle", "(IJ)I"⟩, 15), (⟨"FlowCurvesModel", "comesRound", "(IJI)Z"⟩, 15), (⟨"FlowCurvesModel", "kindOf", "(I)I"⟩, 15), (⟨"FlowCurvesModel", "isCurve", "(I)Z"⟩, 15), (⟨"FlowCurvesModel", "together", "(II)I"⟩, 15), (⟨"FlowCurvesModel", "gainIn", "(II)J"⟩, 15), (⟨"FlowCurvesModel", "make", "(IIII)V"⟩, 15), (⟨"FlowCurvesModel", "value", "(IJ)J"⟩, 15), (⟨"FlowCurvesModel", "least", "(III)J"⟩, 15), (⟨"FlowCurvesModel", "most", "(IIII)J"⟩, 15), (⟨"FlowCurvesModel", "none", "(I)J"⟩, 15), (⟨"FlowCurvesModel", "fineLong", "(J)J"⟩, 15), (⟨"FlowCurvesModel", "isClosed", "(I)Z"⟩, 15), (⟨"FlowCurvesModel", "latest", "(II)I"⟩, 15)]
theorem lw_r2 : ∀ q ∈ lw_privs_2, lw_okq q := List.forall_mem_cons.mpr ⟨lw_p16, List.forall_mem_cons.mpr ⟨lw_p17, List.forall_mem_cons.mpr ⟨lw_p18, List.forall_mem_cons.mpr ⟨lw_p19, List.forall_mem_cons.mpr ⟨lw_p20, List.forall_mem_cons.mpr ⟨lw_p21, List.forall_mem_cons.mpr ⟨lw_p22, List.forall_mem_cons.mpr ⟨lw_p23, List.forall_mem_cons.mpr ⟨lw_p24, List.forall_mem_cons.mpr ⟨lw_p25, List.forall_mem_cons.mpr ⟨lw_p26, List.forall_mem_cons.mpr ⟨lw_p27, List.forall_mem_cons.mpr ⟨lw_p28, List.forall_mem_cons.mpr ⟨lw_p29, List.forall_mem_cons.mpr ⟨lw_p30, List.forall_mem_cons.mpr ⟨lw_p31, fun _ h => absurd h List.not_mem_nil⟩⟩⟩⟩⟩⟩⟩⟩⟩⟩⟩⟩⟩⟩⟩⟩
theorem lw_p32 : lw_okq (⟨"FlowCurvesModel", "spanOf", "(IJ)J"⟩, 15) := ⟨⟨by decide +kernel, by decide +kernel⟩, List.mem_of_getElem? (i := 605) (by decide +kernel), List.mem_of_getElem? (i := 799) (by decide +kernel), List.mem_of_getElem? (i := 800) (by decide +kernel)⟩
theorem lw_p33 : lw_okq (⟨"FlowCurvesModel", "came", "(I)J"⟩, 15) := ⟨⟨by decide +kernel, by decide +kernel⟩, List.mem_of_getElem? (i := 605) (by decide +kernel), List.mem_of_getElem? (i := 833) (by decide +kernel), List.mem_of_getElem? (i := 834) (by decide +kernel)⟩
theorem lw_p34 : lw_okq (⟨"FlowCurvesModel", "served", "(I)J"⟩, 15) := ⟨⟨by decide +kernel, by decide +kernel⟩, List.mem_of_getElem? (i := 605) (by decide +kernel), List.mem_of_getElem? (i := 837) (by decide +kernel), List.mem_of_getElem? (i := 838) (by decide +kernel)⟩
theorem lw_p35 : lw_okq (⟨"FlowCurvesModel", "lateAt", "(I)I"⟩, 15) := ⟨⟨by decide +kernel, by decide +kernel⟩, List.mem_of_getElem? (i := 605) (by decide +kernel), List.mem_of_getElem? (i := 845) (by decide +kernel), List.mem_of_getElem? (i := 846) (by decide +kernel)⟩
def lw_privs_3 : List (MethodName × Nat) := [(⟨"FlowCurvesModel", "spanOf", "(IJ)J"⟩, 15), (⟨"FlowCurvesModel", "came", "(I)J"⟩, 15), (⟨"FlowCurvesModel", "served", "(I)J"⟩, 15), (⟨"FlowCurvesModel", "lateAt", "(I)I"⟩, 15)]
theorem lw_r3 : ∀ q ∈ lw_privs_3, lw_okq q := List.forall_mem_cons.mpr ⟨lw_p32, List.forall_mem_cons.mpr ⟨lw_p33, List.forall_mem_cons.mpr ⟨lw_p34, List.forall_mem_cons.mpr ⟨lw_p35, fun _ h => absurd h List.not_mem_nil⟩⟩⟩⟩
def lw_privs : List (MethodName × Nat) := lw_privs_1 ++ (lw_privs_2 ++ (lw_privs_3))
def lw_tbl : List Cond := k2_sels lw_privs ++ tables_1
theorem lw_privs_ok : ∀ q ∈ lw_privs, lw_okq q := by
  show ∀ q ∈ lw_privs_1 ++ (lw_privs_2 ++ (lw_privs_3)), lw_okq q
  exact List.forall_mem_append.mpr ⟨lw_r1, List.forall_mem_append.mpr ⟨lw_r2, lw_r3⟩⟩
def RX0 : String := "FlowCurves$Burst"
def TX0 : u_T := fun k => match k with
  | 0 => ("FlowCurves$Curve", "start", "I", true)
  | 1 => ("FlowCurves$Curve", "step", "I", true)
  | 2 => ("FlowCurves$Curve", "gain", "I", true)
  | 3 => ("FlowCurves$Curve", "amounts", "[J", true)
  | _ => ("FlowCurves$Burst", "lead", "J", true)
def tyX0 : Nat → FieldType := fun k => match k with
  | 0 => .int
  | 1 => .int
  | 2 => .int
  | 3 => .array .long
  | _ => .long
abbrev wsX00 : List Cond := u_ws RX0 TX0 5
theorem nmX0 : ∀ a, a < 5 → ∀ b, b < 5 → a ≠ b → (TX0 a).2.1 ≠ (TX0 b).2.1 := by decide +kernel
theorem tyX0_ok : ∀ k, k < 5 → parseFieldDescriptor (TX0 k).2.2.1 = some (tyX0 k) := by decide +kernel
abbrev cX0_init : ByteArray := prog_2_method_1_code
def yX0_init : MethodName := ⟨RX0, "<init>", "(III[JJ)V"⟩
abbrev cX0_kind : ByteArray := prog_2_method_2_code
def yX0_kind : MethodName := ⟨RX0, "kind", "()I"⟩
abbrev cX0_asked : ByteArray := prog_2_method_3_code
def yX0_asked : MethodName := ⟨RX0, "asked", "(ILFlowCurves$Tally;)J"⟩
def RX1 : String := "FlowCurves$Curve"
def TX1 : u_T := fun k => match k with
  | 0 => ("FlowCurves$Curve", "start", "I", true)
  | 1 => ("FlowCurves$Curve", "step", "I", true)
  | 2 => ("FlowCurves$Curve", "gain", "I", true)
  | _ => ("FlowCurves$Curve", "amounts", "[J", true)
def tyX1 : Nat → FieldType := fun k => match k with
  | 0 => .int
  | 1 => .int
  | 2 => .int
  | _ => .array .long
abbrev wsX10 : List Cond := u_ws RX1 TX1 4
theorem nmX1 : ∀ a, a < 4 → ∀ b, b < 4 → a ≠ b → (TX1 a).2.1 ≠ (TX1 b).2.1 := by decide +kernel
theorem tyX1_ok : ∀ k, k < 4 → parseFieldDescriptor (TX1 k).2.2.1 = some (tyX1 k) := by decide +kernel
abbrev cX1_init : ByteArray := prog_3_method_1_code
def yX1_init : MethodName := ⟨RX1, "<init>", "(III[J)V"⟩
abbrev cX1_kind : ByteArray := prog_3_method_2_code
def yX1_kind : MethodName := ⟨RX1, "kind", "()I"⟩
abbrev cX1_asked : ByteArray := prog_3_method_3_code
def yX1_asked : MethodName := ⟨RX1, "asked", "(ILFlowCurves$Tally;)J"⟩
abbrev cX1_amount : ByteArray := prog_3_method_4_code
def yX1_amount : MethodName := ⟨RX1, "amount", "(I)J"⟩
abbrev cX1_gainIn : ByteArray := prog_3_method_5_code
def yX1_gainIn : MethodName := ⟨RX1, "gainIn", "(I)J"⟩
abbrev cX1_sharedByGainAndStep : ByteArray := prog_3_method_6_code
def yX1_sharedByGainAndStep : MethodName := ⟨RX1, "sharedByGainAndStep", "()I"⟩
abbrev cX1_firstReaching : ByteArray := prog_3_method_7_code
def yX1_firstReaching : MethodName := ⟨RX1, "firstReaching", "(JI)I"⟩
abbrev cX1_isClosed : ByteArray := prog_3_method_8_code
def yX1_isClosed : MethodName := ⟨RX1, "isClosed", "()Z"⟩
def RX2 : String := "FlowCurves$Late"
def TX2 : u_T := fun k => match k with
  | 0 => ("FlowCurves$Curve", "start", "I", true)
  | 1 => ("FlowCurves$Curve", "step", "I", true)
  | 2 => ("FlowCurves$Curve", "gain", "I", true)
  | _ => ("FlowCurves$Curve", "amounts", "[J", true)
def tyX2 : Nat → FieldType := fun k => match k with
  | 0 => .int
  | 1 => .int
  | 2 => .int
  | _ => .array .long
abbrev wsX20 : List Cond := u_ws RX2 TX2 4
theorem nmX2 : ∀ a, a < 4 → ∀ b, b < 4 → a ≠ b → (TX2 a).2.1 ≠ (TX2 b).2.1 := by decide +kernel
theorem tyX2_ok : ∀ k, k < 4 → parseFieldDescriptor (TX2 k).2.2.1 = some (tyX2 k) := by decide +kernel
abbrev cX2_init : ByteArray := prog_4_method_1_code
def yX2_init : MethodName := ⟨RX2, "<init>", "(III[J)V"⟩
abbrev cX2_kind : ByteArray := prog_4_method_2_code
def yX2_kind : MethodName := ⟨RX2, "kind", "()I"⟩
abbrev cX2_asked : ByteArray := prog_4_method_3_code
def yX2_asked : MethodName := ⟨RX2, "asked", "(ILFlowCurves$Tally;)J"⟩
def RX3 : String := "FlowCurves$Maker"
def TX3 : u_T := fun k => match k with
  | 0 => ("FlowCurves$Maker", "made", "[J", true)
  | 1 => ("FlowCurves$Maker", "one", "[J", true)
  | _ => ("FlowCurves$Maker", "other", "[J", true)
def tyX3 : Nat → FieldType := fun k => match k with
  | 0 => .array .long
  | 1 => .array .long
  | _ => .array .long
abbrev wsX30 : List Cond := u_ws RX3 TX3 3
theorem nmX3 : ∀ a, a < 3 → ∀ b, b < 3 → a ≠ b → (TX3 a).2.1 ≠ (TX3 b).2.1 := by decide +kernel
theorem tyX3_ok : ∀ k, k < 3 → parseFieldDescriptor (TX3 k).2.2.1 = some (tyX3 k) := by decide +kernel
abbrev cX3_init : ByteArray := prog_5_method_1_code
def yX3_init : MethodName := ⟨RX3, "<init>", "()V"⟩
abbrev cX3_fromRow : ByteArray := prog_5_method_2_code
def yX3_fromRow : MethodName := ⟨RX3, "fromRow", "([JIII)LFlowCurves$Curve;"⟩
abbrev cX3_straight : ByteArray := prog_5_method_3_code
def yX3_straight : MethodName := ⟨RX3, "straight", "(I)LFlowCurves$Curve;"⟩
abbrev cX3_multiplied : ByteArray := prog_5_method_4_code
def yX3_multiplied : MethodName := ⟨RX3, "multiplied", "(LFlowCurves$Curve;I)LFlowCurves$Curve;"⟩
abbrev cX3_delayed : ByteArray := prog_5_method_5_code
def yX3_delayed : MethodName := ⟨RX3, "delayed", "(LFlowCurves$Curve;I)LFlowCurves$Curve;"⟩
abbrev cX3_fromBoth : ByteArray := prog_5_method_6_code
def yX3_fromBoth : MethodName := ⟨RX3, "fromBoth", "(ILFlowCurves$Curve;LFlowCurves$Curve;I)LFlowCurves$Curve;"⟩
abbrev cX3_gainOf : ByteArray := prog_5_method_7_code
def yX3_gainOf : MethodName := ⟨RX3, "gainOf", "(IJJ)J"⟩
abbrev cX3_spread : ByteArray := prog_5_method_8_code
def yX3_spread : MethodName := ⟨RX3, "spread", "(LFlowCurves$Curve;[J)V"⟩
abbrev cX3_laySideBySide : ByteArray := prog_5_method_9_code
def yX3_laySideBySide : MethodName := ⟨RX3, "laySideBySide", "(II)V"⟩
abbrev cX3_layRest : ByteArray := prog_5_method_10_code
def yX3_layRest : MethodName := ⟨RX3, "layRest", "(I)V"⟩
abbrev cX3_layBoth : ByteArray := prog_5_method_11_code
def yX3_layBoth : MethodName := ⟨RX3, "layBoth", "(III)V"⟩
abbrev cX3_leastTogether : ByteArray := prog_5_method_12_code
def yX3_leastTogether : MethodName := ⟨RX3, "leastTogether", "(III)J"⟩
abbrev cX3_layOff : ByteArray := prog_5_method_13_code
def yX3_layOff : MethodName := ⟨RX3, "layOff", "(II)V"⟩
abbrev cX3_comesRound : ByteArray := prog_5_method_14_code
def yX3_comesRound : MethodName := ⟨RX3, "comesRound", "(IIJ)Z"⟩
abbrev cX3_settled : ByteArray := prog_5_method_15_code
def yX3_settled : MethodName := ⟨RX3, "settled", "(II)LFlowCurves$Curve;"⟩
abbrev cX3_leastStep : ByteArray := prog_5_method_16_code
def yX3_leastStep : MethodName := ⟨RX3, "leastStep", "(II)I"⟩
abbrev cX3_alsoComesRoundBy : ByteArray := prog_5_method_17_code
def yX3_alsoComesRoundBy : MethodName := ⟨RX3, "alsoComesRoundBy", "(III)Z"⟩
abbrev cX3_ofItsKind : ByteArray := prog_5_method_18_code
def yX3_ofItsKind : MethodName := ⟨RX3, "ofItsKind", "(III[J)LFlowCurves$Curve;"⟩
def RX4 : String := "FlowCurves$Pairs"
def TX4 : u_T := fun k => match k with
  | _ => ("", "", "", false)
def tyX4 : Nat → FieldType := fun k => match k with
  | _ => .int
abbrev wsX40 : List Cond := u_ws RX4 TX4 0
theorem nmX4 : ∀ a, a < 0 → ∀ b, b < 0 → a ≠ b → (TX4 a).2.1 ≠ (TX4 b).2.1 := by decide +kernel
theorem tyX4_ok : ∀ k, k < 0 → parseFieldDescriptor (TX4 k).2.2.1 = some (tyX4 k) := by decide +kernel
abbrev cX4_commonStep : ByteArray := prog_6_method_2_code
def yX4_commonStep : MethodName := ⟨RX4, "commonStep", "(LFlowCurves$Curve;LFlowCurves$Curve;)I"⟩
abbrev cX4_outruns : ByteArray := prog_6_method_3_code
def yX4_outruns : MethodName := ⟨RX4, "outruns", "(LFlowCurves$Curve;LFlowCurves$Curve;I)Z"⟩
abbrev cX4_settledSpan : ByteArray := prog_6_method_4_code
def yX4_settledSpan : MethodName := ⟨RX4, "settledSpan", "(LFlowCurves$Curve;LFlowCurves$Curve;I)I"⟩
abbrev cX4_firstUnlike : ByteArray := prog_6_method_5_code
def yX4_firstUnlike : MethodName := ⟨RX4, "firstUnlike", "(LFlowCurves$Curve;LFlowCurves$Curve;I)I"⟩
abbrev cX4_greatestLead : ByteArray := prog_6_method_6_code
def yX4_greatestLead : MethodName := ⟨RX4, "greatestLead", "(LFlowCurves$Curve;LFlowCurves$Curve;I)J"⟩
abbrev cX4_longestWait : ByteArray := prog_6_method_7_code
def yX4_longestWait : MethodName := ⟨RX4, "longestWait", "(LFlowCurves$Curve;LFlowCurves$Curve;I)I"⟩
def RX5 : String := "FlowCurves$Ray"
def TX5 : u_T := fun k => match k with
  | 0 => ("FlowCurves$Curve", "start", "I", true)
  | 1 => ("FlowCurves$Curve", "step", "I", true)
  | 2 => ("FlowCurves$Curve", "gain", "I", true)
  | _ => ("FlowCurves$Curve", "amounts", "[J", true)
def tyX5 : Nat → FieldType := fun k => match k with
  | 0 => .int
  | 1 => .int
  | 2 => .int
  | _ => .array .long
abbrev wsX50 : List Cond := u_ws RX5 TX5 4
theorem nmX5 : ∀ a, a < 4 → ∀ b, b < 4 → a ≠ b → (TX5 a).2.1 ≠ (TX5 b).2.1 := by decide +kernel
theorem tyX5_ok : ∀ k, k < 4 → parseFieldDescriptor (TX5 k).2.2.1 = some (tyX5 k) := by decide +kernel
abbrev cX5_init : ByteArray := prog_7_method_1_code
def yX5_init : MethodName := ⟨RX5, "<init>", "(III[J)V"⟩
abbrev cX5_kind : ByteArray := prog_7_method_2_code
def yX5_kind : MethodName := ⟨RX5, "kind", "()I"⟩
abbrev cX5_asked : ByteArray := prog_7_method_3_code
def yX5_asked : MethodName := ⟨RX5, "asked", "(ILFlowCurves$Tally;)J"⟩
def RX6 : String := "FlowCurves$Run"
def TX6 : u_T := fun k => match k with
  | 0 => ("FlowCurves$Run", "came", "[J", true)
  | _ => ("FlowCurves$Run", "steps", "I", false)
def tyX6 : Nat → FieldType := fun k => match k with
  | 0 => .array .long
  | _ => .int
abbrev wsX60 : List Cond := u_ws RX6 TX6 2
theorem nmX6 : ∀ a, a < 2 → ∀ b, b < 2 → a ≠ b → (TX6 a).2.1 ≠ (TX6 b).2.1 := by decide +kernel
theorem tyX6_ok : ∀ k, k < 2 → parseFieldDescriptor (TX6 k).2.2.1 = some (tyX6 k) := by decide +kernel
abbrev cX6_init : ByteArray := prog_8_method_1_code
def yX6_init : MethodName := ⟨RX6, "<init>", "()V"⟩
abbrev cX6_isFull : ByteArray := prog_8_method_2_code
def yX6_isFull : MethodName := ⟨RX6, "isFull", "()Z"⟩
abbrev cX6_add : ByteArray := prog_8_method_3_code
def yX6_add : MethodName := ⟨RX6, "add", "(J)V"⟩
abbrev cX6_hardestStep : ByteArray := prog_8_method_4_code
def yX6_hardestStep : MethodName := ⟨RX6, "hardestStep", "(LFlowCurves$Curve;I)J"⟩
abbrev cX6_canFollow : ByteArray := prog_8_method_5_code
def yX6_canFollow : MethodName := ⟨RX6, "canFollow", "(LFlowCurves$Curve;I)Z"⟩
abbrev cX6_follow : ByteArray := prog_8_method_6_code
def yX6_follow : MethodName := ⟨RX6, "follow", "(LFlowCurves$Curve;I)V"⟩
abbrev cX6_arrived : ByteArray := prog_8_method_7_code
def yX6_arrived : MethodName := ⟨RX6, "arrived", "(I)J"⟩
abbrev cX6_passed : ByteArray := prog_8_method_8_code
def yX6_passed : MethodName := ⟨RX6, "passed", "(LFlowCurves$Curve;I)J"⟩
abbrev cX6_held : ByteArray := prog_8_method_9_code
def yX6_held : MethodName := ⟨RX6, "held", "(LFlowCurves$Curve;I)J"⟩
abbrev cX6_lateness : ByteArray := prog_8_method_10_code
def yX6_lateness : MethodName := ⟨RX6, "lateness", "(LFlowCurves$Curve;I)I"⟩
abbrev cX6_greatestHeld : ByteArray := prog_8_method_11_code
def yX6_greatestHeld : MethodName := ⟨RX6, "greatestHeld", "(LFlowCurves$Curve;)J"⟩
abbrev cX6_greatestLateness : ByteArray := prog_8_method_12_code
def yX6_greatestLateness : MethodName := ⟨RX6, "greatestLateness", "(LFlowCurves$Curve;)I"⟩
abbrev cX6_staysWithin : ByteArray := prog_8_method_13_code
def yX6_staysWithin : MethodName := ⟨RX6, "staysWithin", "(LFlowCurves$Curve;)Z"⟩
def RX7 : String := "FlowCurves$Stair"
def TX7 : u_T := fun k => match k with
  | 0 => ("FlowCurves$Curve", "start", "I", true)
  | 1 => ("FlowCurves$Curve", "step", "I", true)
  | 2 => ("FlowCurves$Curve", "gain", "I", true)
  | _ => ("FlowCurves$Curve", "amounts", "[J", true)
def tyX7 : Nat → FieldType := fun k => match k with
  | 0 => .int
  | 1 => .int
  | 2 => .int
  | _ => .array .long
abbrev wsX70 : List Cond := u_ws RX7 TX7 4
theorem nmX7 : ∀ a, a < 4 → ∀ b, b < 4 → a ≠ b → (TX7 a).2.1 ≠ (TX7 b).2.1 := by decide +kernel
theorem tyX7_ok : ∀ k, k < 4 → parseFieldDescriptor (TX7 k).2.2.1 = some (tyX7 k) := by decide +kernel
abbrev cX7_init : ByteArray := prog_9_method_1_code
def yX7_init : MethodName := ⟨RX7, "<init>", "(III[J)V"⟩
abbrev cX7_kind : ByteArray := prog_9_method_2_code
def yX7_kind : MethodName := ⟨RX7, "kind", "()I"⟩
abbrev cX7_asked : ByteArray := prog_9_method_3_code
def yX7_asked : MethodName := ⟨RX7, "asked", "(ILFlowCurves$Tally;)J"⟩
def RX8 : String := "FlowCurves$Tally"
def TX8 : u_T := fun k => match k with
  | _ => ("FlowCurves$Tally", "marks", "[I", true)
def tyX8 : Nat → FieldType := fun k => match k with
  | _ => .array .int
abbrev wsX80 : List Cond := u_ws RX8 TX8 1
theorem nmX8 : ∀ a, a < 1 → ∀ b, b < 1 → a ≠ b → (TX8 a).2.1 ≠ (TX8 b).2.1 := by decide +kernel
theorem tyX8_ok : ∀ k, k < 1 → parseFieldDescriptor (TX8 k).2.2.1 = some (tyX8 k) := by decide +kernel
abbrev cX8_init : ByteArray := prog_10_method_1_code
def yX8_init : MethodName := ⟨RX8, "<init>", "()V"⟩
abbrev cX8_mark : ByteArray := prog_10_method_2_code
def yX8_mark : MethodName := ⟨RX8, "mark", "(I)V"⟩
abbrev cX8_marks : ByteArray := prog_10_method_3_code
def yX8_marks : MethodName := ⟨RX8, "marks", "(I)I"⟩
def RX9 : String := "FlowCurves"
def TX9 : u_T := fun k => match k with
  | 0 => ("FlowCurves", "curves", "[LFlowCurves$Curve;", true)
  | 1 => ("FlowCurves", "curveCount", "I", false)
  | 2 => ("FlowCurves", "mayUndo", "Z", false)
  | 3 => ("FlowCurves", "row", "[J", true)
  | 4 => ("FlowCurves", "rowCount", "I", false)
  | 5 => ("FlowCurves", "run", "LFlowCurves$Run;", true)
  | 6 => ("FlowCurves", "server", "I", false)
  | 7 => ("FlowCurves", "tally", "LFlowCurves$Tally;", true)
  | 8 => ("FlowCurves", "maker", "LFlowCurves$Maker;", true)
  | _ => ("FlowCurves", "latest", "I", false)
def tyX9 : Nat → FieldType := fun k => match k with
  | 0 => .array (.object "FlowCurves$Curve")
  | 1 => .int
  | 2 => .boolean
  | 3 => .array .long
  | 4 => .int
  | 5 => .object "FlowCurves$Run"
  | 6 => .int
  | 7 => .object "FlowCurves$Tally"
  | 8 => .object "FlowCurves$Maker"
  | _ => .int
abbrev wsX90 : List Cond := u_ws RX9 TX9 10
theorem nmX9 : ∀ a, a < 10 → ∀ b, b < 10 → a ≠ b → (TX9 a).2.1 ≠ (TX9 b).2.1 := by decide +kernel
theorem tyX9_ok : ∀ k, k < 10 → parseFieldDescriptor (TX9 k).2.2.1 = some (tyX9 k) := by decide +kernel
abbrev cX9_init : ByteArray := prog_1_method_1_code
def yX9_init : MethodName := ⟨RX9, "<init>", "()V"⟩
abbrev cX9_put : ByteArray := prog_1_method_2_code
def yX9_put : MethodName := ⟨RX9, "put", "(J)I"⟩
abbrev cX9_draw : ByteArray := prog_1_method_3_code
def yX9_draw : MethodName := ⟨RX9, "draw", "(III)I"⟩
abbrev cX9_drop : ByteArray := prog_1_method_4_code
def yX9_drop : MethodName := ⟨RX9, "drop", "()I"⟩
abbrev cX9_curve : ByteArray := prog_1_method_5_code
def yX9_curve : MethodName := ⟨RX9, "curve", "(II)I"⟩
abbrev cX9_ray : ByteArray := prog_1_method_6_code
def yX9_ray : MethodName := ⟨RX9, "ray", "(I)I"⟩
abbrev cX9_of : ByteArray := prog_1_method_7_code
def yX9_of : MethodName := ⟨RX9, "of", "(III)I"⟩
abbrev cX9_times : ByteArray := prog_1_method_8_code
def yX9_times : MethodName := ⟨RX9, "times", "(II)I"⟩
abbrev cX9_shift : ByteArray := prog_1_method_9_code
def yX9_shift : MethodName := ⟨RX9, "shift", "(II)I"⟩
abbrev cX9_undo : ByteArray := prog_1_method_10_code
def yX9_undo : MethodName := ⟨RX9, "undo", "()I"⟩
abbrev cX9_at : ByteArray := prog_1_method_11_code
def yX9_at : MethodName := ⟨RX9, "at", "(II)J"⟩
abbrev cX9_about : ByteArray := prog_1_method_12_code
def yX9_about : MethodName := ⟨RX9, "about", "(II)I"⟩
abbrev cX9_rate : ByteArray := prog_1_method_13_code
def yX9_rate : MethodName := ⟨RX9, "rate", "(II)I"⟩
abbrev cX9_unlike : ByteArray := prog_1_method_14_code
def yX9_unlike : MethodName := ⟨RX9, "unlike", "(II)I"⟩
abbrev cX9_below : ByteArray := prog_1_method_15_code
def yX9_below : MethodName := ⟨RX9, "below", "(II)I"⟩
abbrev cX9_first : ByteArray := prog_1_method_16_code
def yX9_first : MethodName := ⟨RX9, "first", "(IJ)I"⟩
abbrev cX9_heap : ByteArray := prog_1_method_17_code
def yX9_heap : MethodName := ⟨RX9, "heap", "(II)J"⟩
abbrev cX9_wait : ByteArray := prog_1_method_18_code
def yX9_wait : MethodName := ⟨RX9, "wait", "(II)I"⟩
abbrev cX9_come : ByteArray := prog_1_method_19_code
def yX9_come : MethodName := ⟨RX9, "come", "(I)I"⟩
abbrev cX9_hardest : ByteArray := prog_1_method_20_code
def yX9_hardest : MethodName := ⟨RX9, "hardest", "(II)I"⟩
abbrev cX9_stop : ByteArray := prog_1_method_21_code
def yX9_stop : MethodName := ⟨RX9, "stop", "()I"⟩
abbrev cX9_serve : ByteArray := prog_1_method_22_code
def yX9_serve : MethodName := ⟨RX9, "serve", "(I)I"⟩
abbrev cX9_moved : ByteArray := prog_1_method_23_code
def yX9_moved : MethodName := ⟨RX9, "moved", "(II)J"⟩
abbrev cX9_late : ByteArray := prog_1_method_24_code
def yX9_late : MethodName := ⟨RX9, "late", "(I)I"⟩
abbrev cX9_mostHeld : ByteArray := prog_1_method_25_code
def yX9_mostHeld : MethodName := ⟨RX9, "mostHeld", "()J"⟩
abbrev cX9_mostLate : ByteArray := prog_1_method_26_code
def yX9_mostLate : MethodName := ⟨RX9, "mostLate", "()I"⟩
abbrev cX9_keeps : ByteArray := prog_1_method_27_code
def yX9_keeps : MethodName := ⟨RX9, "keeps", "(I)I"⟩
abbrev cX9_count : ByteArray := prog_1_method_28_code
def yX9_count : MethodName := ⟨RX9, "count", "(I)I"⟩
abbrev cX9_trace : ByteArray := prog_1_method_29_code
def yX9_trace : MethodName := ⟨RX9, "trace", "(I)I"⟩
abbrev cX9_status : ByteArray := prog_1_method_30_code
def yX9_status : MethodName := ⟨RX9, "status", "()I"⟩
abbrev cX9_clear : ByteArray := prog_1_method_31_code
def yX9_clear : MethodName := ⟨RX9, "clear", "()I"⟩
abbrev cX9_refused : ByteArray := prog_1_method_32_code
def yX9_refused : MethodName := ⟨RX9, "refused", "(I)I"⟩
abbrev cX9_refusedAmount : ByteArray := prog_1_method_33_code
def yX9_refusedAmount : MethodName := ⟨RX9, "refusedAmount", "(I)J"⟩
abbrev cX9_granted : ByteArray := prog_1_method_34_code
def yX9_granted : MethodName := ⟨RX9, "granted", "(I)I"⟩
abbrev cX9_grantedAmount : ByteArray := prog_1_method_35_code
def yX9_grantedAmount : MethodName := ⟨RX9, "grantedAmount", "(J)J"⟩
abbrev cX9_curveNumbered : ByteArray := prog_1_method_36_code
def yX9_curveNumbered : MethodName := ⟨RX9, "curveNumbered", "(I)LFlowCurves$Curve;"⟩
abbrev cX9_kept : ByteArray := prog_1_method_37_code
def yX9_kept : MethodName := ⟨RX9, "kept", "(LFlowCurves$Curve;)I"⟩
abbrev cX9_rowComesRound : ByteArray := prog_1_method_38_code
def yX9_rowComesRound : MethodName := ⟨RX9, "rowComesRound", "(II)Z"⟩
def RX10 : String := "FlowCurvesModel"
def TX10 : u_T := fun k => match k with
  | 0 => ("FlowCurvesModel", "curves", "I", false)
  | 1 => ("FlowCurvesModel", "start", "[I", true)
  | 2 => ("FlowCurvesModel", "step", "[I", true)
  | 3 => ("FlowCurvesModel", "gain", "[J", true)
  | 4 => ("FlowCurvesModel", "kind", "[I", true)
  | 5 => ("FlowCurvesModel", "amount", "[J", true)
  | 6 => ("FlowCurvesModel", "mayUndo", "Z", false)
  | 7 => ("FlowCurvesModel", "row", "[J", true)
  | 8 => ("FlowCurvesModel", "rowSize", "I", false)
  | 9 => ("FlowCurvesModel", "come", "[J", true)
  | 10 => ("FlowCurvesModel", "steps", "I", false)
  | 11 => ("FlowCurvesModel", "server", "I", false)
  | 12 => ("FlowCurvesModel", "asked", "[I", true)
  | 13 => ("FlowCurvesModel", "status", "I", false)
  | _ => ("FlowCurvesModel", "made", "[J", true)
def tyX10 : Nat → FieldType := fun k => match k with
  | 0 => .int
  | 1 => .array .int
  | 2 => .array .int
  | 3 => .array .long
  | 4 => .array .int
  | 5 => .array .long
  | 6 => .boolean
  | 7 => .array .long
  | 8 => .int
  | 9 => .array .long
  | 10 => .int
  | 11 => .int
  | 12 => .array .int
  | 13 => .int
  | _ => .array .long
abbrev wsX100 : List Cond := u_ws RX10 TX10 15
theorem nmX10 : ∀ a, a < 15 → ∀ b, b < 15 → a ≠ b → (TX10 a).2.1 ≠ (TX10 b).2.1 := by decide +kernel
theorem tyX10_ok : ∀ k, k < 15 → parseFieldDescriptor (TX10 k).2.2.1 = some (tyX10 k) := by decide +kernel
abbrev cX10_init : ByteArray := prog_12_method_1_code
def yX10_init : MethodName := ⟨RX10, "<init>", "()V"⟩
abbrev cX10_in : ByteArray := prog_12_method_2_code
def yX10_in : MethodName := ⟨RX10, "in", "(JJJ)Z"⟩
abbrev cX10_refuse : ByteArray := prog_12_method_3_code
def yX10_refuse : MethodName := ⟨RX10, "refuse", "(I)I"⟩
abbrev cX10_fine : ByteArray := prog_12_method_4_code
def yX10_fine : MethodName := ⟨RX10, "fine", "(I)I"⟩
abbrev cX10_fineLong : ByteArray := prog_12_method_5_code
def yX10_fineLong : MethodName := ⟨RX10, "fineLong", "(J)J"⟩
abbrev cX10_none : ByteArray := prog_12_method_6_code
def yX10_none : MethodName := ⟨RX10, "none", "(I)J"⟩
abbrev cX10_isCurve : ByteArray := prog_12_method_7_code
def yX10_isCurve : MethodName := ⟨RX10, "isCurve", "(I)Z"⟩
abbrev cX10_value : ByteArray := prog_12_method_8_code
def yX10_value : MethodName := ⟨RX10, "value", "(IJ)J"⟩
abbrev cX10_comesRound : ByteArray := prog_12_method_9_code
def yX10_comesRound : MethodName := ⟨RX10, "comesRound", "(IJI)Z"⟩
abbrev cX10_kindOf : ByteArray := prog_12_method_10_code
def yX10_kindOf : MethodName := ⟨RX10, "kindOf", "(I)I"⟩
abbrev cX10_settle : ByteArray := prog_12_method_11_code
def yX10_settle : MethodName := ⟨RX10, "settle", "(IJ)I"⟩
abbrev cX10_put : ByteArray := prog_12_method_12_code
def yX10_put : MethodName := ⟨RX10, "put", "(J)I"⟩
abbrev cX10_draw : ByteArray := prog_12_method_13_code
def yX10_draw : MethodName := ⟨RX10, "draw", "(III)I"⟩
abbrev cX10_drop : ByteArray := prog_12_method_14_code
def yX10_drop : MethodName := ⟨RX10, "drop", "()I"⟩
abbrev cX10_curve : ByteArray := prog_12_method_15_code
def yX10_curve : MethodName := ⟨RX10, "curve", "(II)I"⟩
abbrev cX10_ray : ByteArray := prog_12_method_16_code
def yX10_ray : MethodName := ⟨RX10, "ray", "(I)I"⟩
abbrev cX10_divisor : ByteArray := prog_12_method_17_code
def yX10_divisor : MethodName := ⟨RX10, "divisor", "(II)I"⟩
abbrev cX10_together : ByteArray := prog_12_method_18_code
def yX10_together : MethodName := ⟨RX10, "together", "(II)I"⟩
abbrev cX10_gainIn : ByteArray := prog_12_method_19_code
def yX10_gainIn : MethodName := ⟨RX10, "gainIn", "(II)J"⟩
abbrev cX10_least : ByteArray := prog_12_method_20_code
def yX10_least : MethodName := ⟨RX10, "least", "(III)J"⟩
abbrev cX10_most : ByteArray := prog_12_method_21_code
def yX10_most : MethodName := ⟨RX10, "most", "(IIII)J"⟩
abbrev cX10_make : ByteArray := prog_12_method_22_code
def yX10_make : MethodName := ⟨RX10, "make", "(IIII)V"⟩
abbrev cX10_of : ByteArray := prog_12_method_23_code
def yX10_of : MethodName := ⟨RX10, "of", "(III)I"⟩
abbrev cX10_times : ByteArray := prog_12_method_24_code
def yX10_times : MethodName := ⟨RX10, "times", "(II)I"⟩
abbrev cX10_shift : ByteArray := prog_12_method_25_code
def yX10_shift : MethodName := ⟨RX10, "shift", "(II)I"⟩
abbrev cX10_undo : ByteArray := prog_12_method_26_code
def yX10_undo : MethodName := ⟨RX10, "undo", "()I"⟩
abbrev cX10_at : ByteArray := prog_12_method_27_code
def yX10_at : MethodName := ⟨RX10, "at", "(II)J"⟩
abbrev cX10_isClosed : ByteArray := prog_12_method_28_code
def yX10_isClosed : MethodName := ⟨RX10, "isClosed", "(I)Z"⟩
abbrev cX10_about : ByteArray := prog_12_method_29_code
def yX10_about : MethodName := ⟨RX10, "about", "(II)I"⟩
abbrev cX10_rate : ByteArray := prog_12_method_30_code
def yX10_rate : MethodName := ⟨RX10, "rate", "(II)I"⟩
abbrev cX10_latest : ByteArray := prog_12_method_31_code
def yX10_latest : MethodName := ⟨RX10, "latest", "(II)I"⟩
abbrev cX10_unlike : ByteArray := prog_12_method_32_code
def yX10_unlike : MethodName := ⟨RX10, "unlike", "(II)I"⟩
abbrev cX10_below : ByteArray := prog_12_method_33_code
def yX10_below : MethodName := ⟨RX10, "below", "(II)I"⟩
abbrev cX10_spanOf : ByteArray := prog_12_method_34_code
def yX10_spanOf : MethodName := ⟨RX10, "spanOf", "(IJ)J"⟩
abbrev cX10_first : ByteArray := prog_12_method_35_code
def yX10_first : MethodName := ⟨RX10, "first", "(IJ)I"⟩
abbrev cX10_heap : ByteArray := prog_12_method_36_code
def yX10_heap : MethodName := ⟨RX10, "heap", "(II)J"⟩
abbrev cX10_wait : ByteArray := prog_12_method_37_code
def yX10_wait : MethodName := ⟨RX10, "wait", "(II)I"⟩
abbrev cX10_come : ByteArray := prog_12_method_38_code
def yX10_come : MethodName := ⟨RX10, "come", "(I)I"⟩
abbrev cX10_hardest : ByteArray := prog_12_method_39_code
def yX10_hardest : MethodName := ⟨RX10, "hardest", "(II)I"⟩
abbrev cX10_stop : ByteArray := prog_12_method_40_code
def yX10_stop : MethodName := ⟨RX10, "stop", "()I"⟩
abbrev cX10_serve : ByteArray := prog_12_method_41_code
def yX10_serve : MethodName := ⟨RX10, "serve", "(I)I"⟩
abbrev cX10_came : ByteArray := prog_12_method_42_code
def yX10_came : MethodName := ⟨RX10, "came", "(I)J"⟩
abbrev cX10_served : ByteArray := prog_12_method_43_code
def yX10_served : MethodName := ⟨RX10, "served", "(I)J"⟩
abbrev cX10_moved : ByteArray := prog_12_method_44_code
def yX10_moved : MethodName := ⟨RX10, "moved", "(II)J"⟩
abbrev cX10_lateAt : ByteArray := prog_12_method_45_code
def yX10_lateAt : MethodName := ⟨RX10, "lateAt", "(I)I"⟩
abbrev cX10_late : ByteArray := prog_12_method_46_code
def yX10_late : MethodName := ⟨RX10, "late", "(I)I"⟩
abbrev cX10_mostHeld : ByteArray := prog_12_method_47_code
def yX10_mostHeld : MethodName := ⟨RX10, "mostHeld", "()J"⟩
abbrev cX10_mostLate : ByteArray := prog_12_method_48_code
def yX10_mostLate : MethodName := ⟨RX10, "mostLate", "()I"⟩
abbrev cX10_keeps : ByteArray := prog_12_method_49_code
def yX10_keeps : MethodName := ⟨RX10, "keeps", "(I)I"⟩
abbrev cX10_count : ByteArray := prog_12_method_50_code
def yX10_count : MethodName := ⟨RX10, "count", "(I)I"⟩
abbrev cX10_trace : ByteArray := prog_12_method_51_code
def yX10_trace : MethodName := ⟨RX10, "trace", "(I)I"⟩
abbrev cX10_status : ByteArray := prog_12_method_52_code
def yX10_status : MethodName := ⟨RX10, "status", "()I"⟩
abbrev cX10_clear : ByteArray := prog_12_method_53_code
def yX10_clear : MethodName := ⟨RX10, "clear", "()I"⟩
def RJx8e188 : String := "java/lang/Cloneable"
def TJx8e188 : u_T := fun k => match k with
  | _ => ("", "", "", false)
def tyJx8e188 : Nat → FieldType := fun k => match k with
  | _ => .int
abbrev wsJx8e1880 : List Cond := u_ws RJx8e188 TJx8e188 0
theorem nmJx8e188 : ∀ a, a < 0 → ∀ b, b < 0 → a ≠ b → (TJx8e188 a).2.1 ≠ (TJx8e188 b).2.1 := by decide +kernel
theorem tyJx8e188_ok : ∀ k, k < 0 → parseFieldDescriptor (TJx8e188 k).2.2.1 = some (tyJx8e188 k) := by decide +kernel
def RJ9 : String := "java/lang/Math"
def TJ9 : u_T := fun k => match k with
  | _ => ("", "", "", false)
def tyJ9 : Nat → FieldType := fun k => match k with
  | _ => .int
abbrev wsJ90 : List Cond := u_ws RJ9 TJ9 0
theorem nmJ9 : ∀ a, a < 0 → ∀ b, b < 0 → a ≠ b → (TJ9 a).2.1 ≠ (TJ9 b).2.1 := by decide +kernel
theorem tyJ9_ok : ∀ k, k < 0 → parseFieldDescriptor (TJ9 k).2.2.1 = some (tyJ9 k) := by decide +kernel
abbrev cJ9_max_7cf53 : ByteArray := prog_14_method_65_code
def yJ9_max_7cf53 : MethodName := ⟨RJ9, "max", "(II)I"⟩
abbrev cJ9_max_f86c9 : ByteArray := prog_14_method_66_code
def yJ9_max_f86c9 : MethodName := ⟨RJ9, "max", "(JJ)J"⟩
abbrev cJ9_min_7cf53 : ByteArray := prog_14_method_69_code
def yJ9_min_7cf53 : MethodName := ⟨RJ9, "min", "(II)I"⟩
abbrev cJ9_min_f86c9 : ByteArray := prog_14_method_70_code
def yJ9_min_f86c9 : MethodName := ⟨RJ9, "min", "(JJ)J"⟩
def RJ10 : String := "java/lang/System"
def TJ10 : u_T := fun k => match k with
  | _ => ("", "", "", false)
def tyJ10 : Nat → FieldType := fun k => match k with
  | _ => .int
abbrev wsJ100 : List Cond := u_ws RJ10 TJ10 0
theorem nmJ10 : ∀ a, a < 0 → ∀ b, b < 0 → a ≠ b → (TJ10 a).2.1 ≠ (TJ10 b).2.1 := by decide +kernel
theorem tyJ10_ok : ∀ k, k < 0 → parseFieldDescriptor (TJ10 k).2.2.1 = some (tyJ10 k) := by decide +kernel
def RJ7 : String := "java/util/Arrays"
def TJ7 : u_T := fun k => match k with
  | _ => ("", "", "", false)
def tyJ7 : Nat → FieldType := fun k => match k with
  | _ => .int
abbrev wsJ70 : List Cond := u_ws RJ7 TJ7 0
theorem nmJ7 : ∀ a, a < 0 → ∀ b, b < 0 → a ≠ b → (TJ7 a).2.1 ≠ (TJ7 b).2.1 := by decide +kernel
theorem tyJ7_ok : ∀ k, k < 0 → parseFieldDescriptor (TJ7 k).2.2.1 = some (tyJ7 k) := by decide +kernel
abbrev cJ7_copyOf_c38d5 : ByteArray := prog_16_method_124_code
def yJ7_copyOf_c38d5 : MethodName := ⟨RJ7, "copyOf", "([JI)[J"⟩
def RL : String := "FlowCurvesLaw"
abbrev cL_law : ByteArray := code
def yL_law : MethodName := ⟨RL, "law", "([I)Z"⟩
abbrev vwCl : List vw_C := [(RX0, TX0, 5), (RX1, TX1, 4), (RX2, TX2, 4), (RX3, TX3, 3), (RX5, TX5, 4), (RX6, TX6, 2), (RX7, TX7, 4), (RX8, TX8, 1), (RX9, TX9, 10), (RX10, TX10, 15)]
set_option maxRecDepth 100000 in
def lw_ok : List Cond := lw_tbl.filter goodWord
set_option maxRecDepth 100000 in
theorem lw_okI (i : Nat) {w : Cond} (h : lw_tbl[i]? = some w) (hg : goodWord w = true) : w ∈ lw_ok := List.mem_filter.mpr ⟨List.mem_of_getElem? h, hg⟩
set_option maxRecDepth 100000 in
theorem lw_ok_good : ∀ w ∈ lw_ok, goodWord w = true := fun w h => (List.mem_filter.mp h).2
set_option maxRecDepth 100000 in
theorem lw_ok_tbl : ∀ w ∈ lw_ok, w ∈ lw_tbl := fun w h => (List.mem_filter.mp h).1
set_option maxRecDepth 100000 in
theorem inX0 : ∀ w ∈ wsX00, w ∈ lw_ok := by decide +kernel
set_option maxRecDepth 100000 in
theorem inX1 : ∀ w ∈ wsX10, w ∈ lw_ok := by decide +kernel
set_option maxRecDepth 100000 in
theorem inX2 : ∀ w ∈ wsX20, w ∈ lw_ok := by decide +kernel
set_option maxRecDepth 100000 in
theorem inX3 : ∀ w ∈ wsX30, w ∈ lw_ok := by decide +kernel
set_option maxRecDepth 100000 in
theorem inX5 : ∀ w ∈ wsX50, w ∈ lw_ok := by decide +kernel
set_option maxRecDepth 100000 in
theorem inX6 : ∀ w ∈ wsX60, w ∈ lw_ok := by decide +kernel
set_option maxRecDepth 100000 in
theorem inX7 : ∀ w ∈ wsX70, w ∈ lw_ok := by decide +kernel
set_option maxRecDepth 100000 in
theorem inX8 : ∀ w ∈ wsX80, w ∈ lw_ok := by decide +kernel
set_option maxRecDepth 100000 in
theorem inX9 : ∀ w ∈ wsX90, w ∈ lw_ok := by decide +kernel
set_option maxRecDepth 100000 in
theorem inX10 : ∀ w ∈ wsX100, w ∈ lw_ok := by decide +kernel
end
section
/-! ===== AM: mathematical values, cells and heaps over the machine; the judgement EX (a frame runs to an end that meets Q) and MC (a method's contract) ===== -/
abbrev aV : Type := Sum Int (Sum Int (Option Nat))
abbrev vI (x : Int) : aV := Sum.inl x
abbrev vJ (x : Int) : aV := Sum.inr (Sum.inl x)
abbrev vR (r : Option Nat) : aV := Sum.inr (Sum.inr r)
abbrev vA (a : Nat) : aV := Sum.inr (Sum.inr (some a))
abbrev vN : aV := Sum.inr (Sum.inr none)
def cv : aV → Value
  | .inl x => .int (Int32.ofInt x)
  | .inr (.inl x) => .long (Int64.ofInt x)
  | .inr (.inr r) => va_rf r
def okI (x : Int) : Prop := -2147483648 ≤ x ∧ x ≤ 2147483647
def okJ (x : Int) : Prop := -9223372036854775808 ≤ x ∧ x ≤ 9223372036854775807
def okV : aV → Prop
  | .inl x => okI x
  | .inr (.inl x) => okJ x
  | .inr (.inr _) => True
abbrev aE : Type := Sum (Nat × (Nat → Int)) (Sum (Nat × (Nat → Int)) (Sum (Nat × (Nat → Option Nat)) (Nat × List aV)))
abbrev eI (n : Nat) (g : Nat → Int) : aE := Sum.inl (n, g)
abbrev eJ (n : Nat) (g : Nat → Int) : aE := Sum.inr (Sum.inl (n, g))
abbrev eR (n : Nat) (r : Nat → Option Nat) : aE := Sum.inr (Sum.inr (Sum.inl (n, r)))
abbrev eO (ci : Nat) (fs : List aV) : aE := Sum.inr (Sum.inr (Sum.inr (ci, fs)))
abbrev aG : Type := Launch × (Nat → ClassId) × (Nat → Nat → Nat) × ClassId × ClassId × ClassId
abbrev gD (G : aG) : va_G := (G.2.1, G.2.2.1)
abbrev gT (G : aG) : List (ClassId × FieldType) := [(G.2.2.2.1, .int), (G.2.2.2.2.1, .long), (G.2.2.2.2.2, .object RX1)]
def ce (G : aG) : aE → va_E
  | .inl (n, g) => .inl (G.2.2.2.1, n, .inl (fun j => Int32.ofInt (g j)))
  | .inr (.inl (n, g)) => .inl (G.2.2.2.2.1, n, .inr (.inl (fun j => Int64.ofInt (g j))))
  | .inr (.inr (.inl (n, r))) => .inl (G.2.2.2.2.2, n, .inr (.inr (.inr (.inr r))))
  | .inr (.inr (.inr (ci, fs))) => .inr (ci, fs.map cv)
def okE : aE → Prop
  | .inl (_, g) => ∀ j, okI (g j)
  | .inr (.inl (_, g)) => ∀ j, okJ (g j)
  | .inr (.inr (.inl _)) => True
  | .inr (.inr (.inr (_, fs))) => ∀ v ∈ fs, okV v
abbrev aH : Type := Nat → Option aE
def hset (h : aH) (a : Nat) (e : aE) : aH := fun b => if b = a then some e else h b
theorem hset_eq (h : aH) (a : Nat) (e : aE) : hset h a e a = some e := if_pos rfl
theorem hset_ne (h : aH) {a b : Nat} (e : aE) (hb : b ≠ a) : hset h a e b = h b := if_neg hb
def okH (h : aH) : Prop := ∀ a e, h a = some e → okE e
theorem okH.set {h : aH} (hh : okH h) {a : Nat} {e : aE} (he : okE e) : okH (hset h a e) := by
  intro b x hx
  by_cases hb : b = a
  · subst hb; rw [hset_eq] at hx; cases hx; exact he
  · rw [hset_ne h e hb] at hx; exact hh b x hx
def ceh (G : aG) (h : aH) : Nat → va_E := fun a => ce G ((h a).getD (eI 0 (fun _ => 0)))
theorem ceh_at (G : aG) {h : aH} {a : Nat} {e : aE} (he : h a = some e) : ceh G h a = ce G e := by simp [ceh, he]
theorem ceh_set (G : aG) (h : aH) (a : Nat) (e : aE) : va_up (ceh G h) a (ce G e) = ceh G (hset h a e) := by
  funext b
  by_cases hb : b = a
  · subst hb; simp [va_up, ceh, hset]
  · simp [va_up, ceh, hset, hb]
def aWd (G : aG) (A : Nat → Prop) (h : aH) (H : Heap) : Prop := ∃ Ls : List Nat, va_P (gD G) vwCl (va_pl Ls (ceh G h)) H ∧ va_D A (va_pl Ls (ceh G h)) ∧ ∀ a, a ∈ Ls ↔ (h a).isSome = true
theorem aWd.get {G : aG} {A : Nat → Prop} {h : aH} {H : Heap} (w : aWd G A h H) {a : Nat} {e : aE} (he : h a = some e) : ∃ (Ls : List Nat) (k : Nat), va_P (gD G) vwCl (va_pl Ls (ceh G h)) H ∧ va_D A (va_pl Ls (ceh G h)) ∧ (∀ b, b ∈ Ls ↔ (h b).isSome = true) ∧ a ∈ Ls ∧ (va_pl Ls (ceh G h))[k]? = some (a, ce G e) := by
  obtain ⟨Ls, hP, hD, hL⟩ := w
  have ha : a ∈ Ls := (hL a).mpr (by rw [he]; rfl)
  obtain ⟨k, hk⟩ := va_pl_get (X := []) (f := ceh G h) ha
  refine ⟨Ls, k, hP, hD, hL, ha, ?_⟩
  rw [List.nil_append, ceh_at G he] at hk
  exact hk
theorem aWd.upd {G : aG} {A : Nat → Prop} {h : aH} {H1 : Heap} {Ls : List Nat} {a k : Nat} {e0 e : aE} (he : h a = some e0) (hD0 : va_D A (va_pl Ls (ceh G h))) (hL : ∀ b, b ∈ Ls ↔ (h b).isSome = true) (ha : a ∈ Ls) (hk : (va_pl Ls (ceh G h))[k]? = some (a, ce G e0))
    (hP : va_P (gD G) vwCl ((va_pl Ls (ceh G h)).set k (a, ce G e)) H1) (hD : va_D A ((va_pl Ls (ceh G h)).set k (a, ce G e))) : aWd G A (hset h a e) H1 := by
  have h1 := va_pl_set (X := []) (f := ceh G h) (e := ce G e) (by simpa using hD0) ha (by rw [List.nil_append, ceh_at G he]; exact hk)
  rw [List.nil_append, List.nil_append, ceh_set] at h1
  rw [h1] at hP hD
  refine ⟨Ls, hP, hD, fun b => ?_⟩
  rw [hL b]
  by_cases hb : b = a
  · subst hb; rw [hset_eq, he]; exact ⟨fun _ => rfl, fun _ => rfl⟩
  · rw [hset_ne h e hb]
theorem aWd.lt {G : aG} {A : Nat → Prop} {h : aH} {H : Heap} (w : aWd G A h H) {a : Nat} (ha : (h a).isSome = true) : a < H.size := by
  obtain ⟨e, he⟩ := Option.isSome_iff_exists.mp ha
  obtain ⟨Ls, k, hP, -, -, -, hk⟩ := w.get he
  exact (hP k _ hk).lt
theorem aWd.in {G : aG} {A : Nat → Prop} {h : aH} {H : Heap} (w : aWd G A h H) {a : Nat} (ha : (h a).isSome = true) : A a := by
  obtain ⟨e, he⟩ := Option.isSome_iff_exists.mp ha
  obtain ⟨Ls, k, -, hD, -, -, hk⟩ := w.get he
  exact hD.2 k _ hk
theorem aWd.weaken {G : aG} {A B : Nat → Prop} {h : aH} {H : Heap} (w : aWd G A h H) (hAB : ∀ a, (h a).isSome = true → A a → B a) : aWd G B h H := by
  obtain ⟨Ls, hP, hD, hL⟩ := w
  refine ⟨Ls, hP, ⟨hD.1, fun k q hk => ?_⟩, hL⟩
  have hq : q.1 ∈ Ls := by
    have := List.mem_of_getElem? hk
    simp only [va_pl, List.mem_map] at this
    obtain ⟨b, hb, rfl⟩ := this
    exact hb
  exact hAB _ ((hL _).mp hq) (hD.2 k q hk)
theorem aWd.push {G : aG} {A : Nat → Prop} {h : aH} {H1 : Heap} {Ls : List Nat} {a : Nat} {e : aE} (hL : ∀ b, b ∈ Ls ↔ (h b).isSome = true) (ha : h a = none)
    (hP : va_P (gD G) vwCl (va_pl Ls (ceh G h) ++ [(a, ce G e)]) H1) (hD : va_D A (va_pl Ls (ceh G h) ++ [(a, ce G e)])) : aWd G A (hset h a e) H1 := by
  have hn : a ∉ Ls := fun q => by have := (hL a).mp q; rw [ha] at this; cases this
  rw [va_pl_push hn, ceh_set] at hP hD
  refine ⟨Ls ++ [a], hP, hD, fun b => ?_⟩
  by_cases hb : b = a
  · subst hb; rw [hset_eq]; simp
  · rw [hset_ne h e hb, ← hL b]; simp [hb]
-- methods, rooms, contexts
def aNW : List Cond := [.castable RX0 RX1, .castable RX2 RX1, .castable RX5 RX1, .castable RX7 RX1, .methodLinkNest RX9 32 yX6_init RX9, .methodLinkNest RX9 42 yX8_init RX9, .methodLinkNest RX9 49 yX3_init RX9, .fieldLinkNest RX9 168 RX6 "steps" "I" RX9]
def aKx (G : aG) (U : State) : Prop := va_K (gD G) vwCl (gT G) U ∧ va_AO RX1 U ∧ ∀ w ∈ aNW, va_Nw w U
theorem aKx.warm {G : aG} {s U : State} (hW : s.WarmedH U.vm) (h : aKx G s) : aKx G U := by
  refine ⟨va_K.moved hW.alike h.1, va_AO.moved hW.alike h.2.1, fun w hw => ?_⟩
  have h1 := h.2.2 w hw
  simp only [aNW, List.mem_cons, List.not_mem_nil, or_false] at hw
  rcases hw with rfl | rfl | rfl | rfl | rfl | rfl | rfl | rfl
  · exact va_Nw.warmC hW h1
  · exact va_Nw.warmC hW h1
  · exact va_Nw.warmC hW h1
  · exact va_Nw.warmC hW h1
  · exact va_Nw.warmM hW h1
  · exact va_Nw.warmM hW h1
  · exact va_Nw.warmM hW h1
  · exact va_Nw.warmF hW h1
theorem aNW_tables : ∀ w ∈ aNW, w.onTables = true := by decide +kernel
theorem aKx.blind {G : aG} {a : Array Value} {U : State} {g : JFrame} {mk : MethodId} (h : aKx G U) : aKx G (U.calling g mk a) :=
  ⟨va_K.moved (u := U) (U := U.calling g mk a) (Vm.Alike.refl U.vm) h.1, va_AO.moved (u := U) (U := U.calling g mk a) (Vm.Alike.refl U.vm) h.2.1, fun w hw => va_Nw.same (aNW_tables w hw) (u := U) (U := U.calling g mk a) rfl (h.2.2 w hw)⟩
abbrev aM : Type := MethodName × ByteArray × Nat × Option FieldType
abbrev aRm (d mc ms : Nat) : Room := { frames := d, cells := mc, slots := ms, locals := 38 * d }
def aCtx (G : aG) (X : aM) (p : Program) (s : State) (m : MethodId) (args : Array Value) (meth : Method) (c : Code) : Prop :=
  p.tables.exec = Jvm.exec ∧ c.code = X.2.1 ∧ c.maxLocals = X.2.2.1 ∧ meth.sig.returnType = X.2.2.2 ∧ s.vm.findClass X.1.cls = some m.cls ∧ (∀ w ∈ lw_ok, w.before args s = true) ∧ meth.locks = false ∧ (X.1.name = "<init>" → meth.name = "<init>") ∧ aKx G s
abbrev cvq (q : Nat × aV) : Nat × Value := (q.1, cv q.2)
def aA (h : aH) (sz : Nat) : Nat → Prop := fun q => (h q).isSome = true ∨ sz ≤ q
def aQ (G : aG) (A : Nat → Prop) (Q : Option aV → aH → Prop) : Array Value → State → Outcome → State → Prop := fun _ st o t =>
  (∃ (r : Option aV) (h' : aH), Q r h' ∧ o = .returned (r.map cv) ∧ aWd G A h' t.heap ∧ okH h' ∧ ∀ v, r = some v → okV v) ∧ va_F A st t
def EX (G : aG) (X : aM) (d mc ms : Nat) (Q : Option aV → aH → Prop) (pc : Nat) (L : List (Nat × aV)) (st : List aV) (h : aH) (kc ks : Nat) : Prop :=
  ∀ (p : Program) (e : Env) (s : State) (m : MethodId) (args : Array Value) (below : List Frame) (meth : Method) (c : Code) (A : Nat → Prop) (H : Heap) (ls : Array Slot) (locs : List Loc),
    aCtx G X p s m args meth c → (∀ q : Nat, s.heap.size ≤ q → A q) → aWd G A h H → va_S A s.heap H locs → okH h → (∀ v ∈ st, okV v) → (∀ q ∈ L, okV q.2) → lv_has ls X.2.2.1 (L.map cvq) →
    W p G.1 e (aRm d mc ms) s m args below meth c H locs kc ks (MQ below (aQ G A Q) args s mc ms A) (F0 m pc ls (st.map cv))
def MC (G : aG) (X : aM) (d mc ms : Nat) (args : List aV) (h : aH) (Q : Option aV → aH → Prop) : Prop :=
  (∀ v ∈ args, okV v) → okH h → ∀ sz : Nat, Met G.1 X.1 (.code X.1 X.2.1 X.2.2.1 X.2.2.2 :: lw_ok) (aRm d mc ms) (va_Pc (args.map cv) (fun U => U.heap.size = sz ∧ aWd G (fun _ => True) h U.heap ∧ aKx G U)) (aQ G (aA h sz) Q) mc ms (aA h sz)
def aArgs : Nat → List aV → List (Nat × aV)
  | _, [] => []
  | i, .inl x :: vs => (i, .inl x) :: aArgs (i + 1) vs
  | i, .inr (.inl x) :: vs => (i, .inr (.inl x)) :: aArgs (i + 2) vs
  | i, .inr (.inr r) :: vs => (i, .inr (.inr r)) :: aArgs (i + 1) vs
theorem cv_cat_r (r : Option Nat) : (va_rf r).category = 1 := by cases r <;> rfl
theorem aArgs_cv : ∀ (vs : List aV) (i : Nat), (aArgs i vs).map cvq = lv_args i (vs.map cv)
  | [], _ => rfl
  | .inl x :: vs, i => by
    simp only [aArgs, List.map_cons, lv_args, cvq, cv, aArgs_cv vs]
    rfl
  | .inr (.inl x) :: vs, i => by
    simp only [aArgs, List.map_cons, lv_args, cvq, cv, aArgs_cv vs]
    rfl
  | .inr (.inr r) :: vs, i => by
    simp only [aArgs, List.map_cons, lv_args, cvq, cv, aArgs_cv vs, cv_cat_r]
    rfl
theorem aArgs_mem : ∀ (vs : List aV) (i : Nat), ∀ q ∈ aArgs i vs, q.2 ∈ vs
  | [], _, q, h => by cases h
  | .inl x :: vs, i, q, h => by
    rcases List.mem_cons.mp h with rfl | h
    · exact List.mem_cons_self
    · exact List.mem_cons_of_mem _ (aArgs_mem vs _ q h)
  | .inr (.inl x) :: vs, i, q, h => by
    rcases List.mem_cons.mp h with rfl | h
    · exact List.mem_cons_self
    · exact List.mem_cons_of_mem _ (aArgs_mem vs _ q h)
  | .inr (.inr r) :: vs, i, q, h => by
    rcases List.mem_cons.mp h with rfl | h
    · exact List.mem_cons_self
    · exact List.mem_cons_of_mem _ (aArgs_mem vs _ q h)
theorem MC.of {G : aG} {X : aM} {d mc ms : Nat} {args : List aV} {h : aH} {Q : Option aV → aH → Prop} (hy : plainName X.1.cls = true) (hn : (lg_sl (args.map cv)).length ≤ X.2.2.1)
    (k : (∀ v ∈ args, okV v) → okH h → EX G X d mc ms Q 0 (aArgs 0 args) [] h 0 0) : MC G X d mc ms args h Q := by
  intro hok hokh sz
  refine Met.ofW (cc := X.2.1) (maxL := X.2.2.1) (ret := X.2.2.2) hy rfl ?_
  intro p e s m av below meth c s₁ B hml hv
  obtain ⟨rfl, hsz, hw, hK⟩ := hv
  subst hsz
  have hts : ∀ w ∈ lw_ok, w.before ((args.map cv).toArray) s = true := fun w hw => atoms_spec (ws := Cond.code X.1 X.2.1 X.2.2.1 X.2.2.2 :: lw_ok) B.pre w (List.mem_cons_of_mem _ hw)
  have hown : s.vm.findClass X.1.cls = some m.cls := findClass_of_methodNamed B.named
  have hl := lv_entry (args.map cv) (n := X.2.2.1) hn
  rw [lg_entry_eq]
  generalize (lg_sl (args.map cv) ++ List.replicate (X.2.2.1 - (lg_sl (args.map cv)).length) Slot.unset).toArray = ls at hl ⊢
  have hin : X.1.name = "<init>" → meth.name = "<init>" := fun q => by
    have := (name_of_methodNamed (x := X.1) B.named B.method).1
    rw [← q]; exact this
  refine k hok hokh p e s m _ below meth c (aA h s.heap.size) s.heap ls [] ⟨B.exec, B.bytes, hml, B.returns, hown, hts, B.notSynchronized, hin, hK⟩ (fun q hq => Or.inr hq) (hw.weaken fun a ha _ => Or.inl ha) va_S.rf hokh (fun v hv => by cases hv) (fun q hq => hok _ (aArgs_mem _ _ q hq)) ?_
  rw [aArgs_cv]
  exact hl
theorem aQ.mono {G : aG} {A : Nat → Prop} {Q Q' : Option aV → aH → Prop} (hq : ∀ r h, Q r h → Q' r h) {a : Array Value} {st : State} {o : Outcome} {t : State} (h : aQ G A Q a st o t) : aQ G A Q' a st o t := by
  obtain ⟨⟨r, h', q, z⟩, f⟩ := h
  exact ⟨⟨r, h', hq _ _ q, z⟩, f⟩
theorem EX.mono {G : aG} {X : aM} {d mc ms : Nat} {Q Q' : Option aV → aH → Prop} {pc : Nat} {L : List (Nat × aV)} {st : List aV} {h : aH} {kc ks : Nat} (k : EX G X d mc ms Q pc L st h kc ks) (hq : ∀ r h, Q r h → Q' r h) : EX G X d mc ms Q' pc L st h kc ks := by
  intro p e s m args below meth c A H ls locs C hA w hS ho h1 h2 hl T hT X₀
  obtain ⟨t, a, o, b1, b2, b3, b4⟩ := k p e s m args below meth c A H ls locs C hA w hS ho h1 h2 hl T hT X₀
  exact ⟨t, a, o, b1, b2, aQ.mono hq b3, b4⟩
/-- fewer locals -/
theorem EX.drop {G : aG} {X : aM} {d mc ms : Nat} {Q : Option aV → aH → Prop} {pc : Nat} {L L' : List (Nat × aV)} {st : List aV} {h : aH} {kc ks : Nat} (k : EX G X d mc ms Q pc L' st h kc ks) (hs : ∀ q ∈ L', q ∈ L) : EX G X d mc ms Q pc L st h kc ks := by
  intro p e s m args below meth c A H ls locs C hA w hS ho h1 h2 hl
  refine k p e s m args below meth c A H ls locs C hA w hS ho h1 (fun q hq => h2 q (hs q hq)) ⟨hl.1, hl.2.1, fun q hq => ?_⟩
  obtain ⟨q0, hq0, rfl⟩ := List.mem_map.mp hq
  exact hl.2.2 _ (List.mem_map.mpr ⟨q0, hs q0 hq0, rfl⟩)
end
section
/-! ===== numbers of the machine as mathematical ones ===== -/
theorem i32_to {x : Int} (h : okI x) : (Int32.ofInt x).toInt = x := Int32.toInt_ofInt_of_le h.1 (by have := h.2; omega)
theorem i64_to {x : Int} (h : okJ x) : (Int64.ofInt x).toInt = x := Int64.toInt_ofInt_of_le h.1 (by have := h.2; omega)
theorem i32_add (x y : Int) : Int32.ofInt x + Int32.ofInt y = Int32.ofInt (x + y) := (Int32.ofInt_add x y).symm
theorem i32_sub (x y : Int) : Int32.ofInt x - Int32.ofInt y = Int32.ofInt (x - y) := (Int32.ofInt_sub x y).symm
theorem i32_mul (x y : Int) : Int32.ofInt x * Int32.ofInt y = Int32.ofInt (x * y) := (Int32.ofInt_mul x y).symm
theorem i64_add (x y : Int) : Int64.ofInt x + Int64.ofInt y = Int64.ofInt (x + y) := (Int64.ofInt_add x y).symm
theorem i64_sub (x y : Int) : Int64.ofInt x - Int64.ofInt y = Int64.ofInt (x - y) := (Int64.ofInt_sub x y).symm
theorem i64_mul (x y : Int) : Int64.ofInt x * Int64.ofInt y = Int64.ofInt (x * y) := (Int64.ofInt_mul x y).symm
theorem i32_eq {x y : Int} (hx : okI x) (hy : okI y) : Int32.ofInt x = Int32.ofInt y ↔ x = y :=
  ⟨fun h => by rw [← i32_to hx, ← i32_to hy, h], fun h => by rw [h]⟩
theorem i32_lt {x y : Int} (hx : okI x) (hy : okI y) : Int32.ofInt x < Int32.ofInt y ↔ x < y := by
  rw [Int32.lt_iff_toInt_lt, i32_to hx, i32_to hy]
theorem i32_le {x y : Int} (hx : okI x) (hy : okI y) : Int32.ofInt x ≤ Int32.ofInt y ↔ x ≤ y := by
  rw [Int32.le_iff_toInt_le, i32_to hx, i32_to hy]
theorem i64_eq {x y : Int} (hx : okJ x) (hy : okJ y) : Int64.ofInt x = Int64.ofInt y ↔ x = y :=
  ⟨fun h => by rw [← i64_to hx, ← i64_to hy, h], fun h => by rw [h]⟩
theorem i64_lt {x y : Int} (hx : okJ x) (hy : okJ y) : Int64.ofInt x < Int64.ofInt y ↔ x < y := by
  rw [Int64.lt_iff_toInt_lt, i64_to hx, i64_to hy]
theorem i64_le {x y : Int} (hx : okJ x) (hy : okJ y) : Int64.ofInt x ≤ Int64.ofInt y ↔ x ≤ y := by
  rw [Int64.le_iff_toInt_le, i64_to hx, i64_to hy]
theorem okI_0 : okI 0 := by unfold okI; omega
theorem okJ_0 : okJ 0 := by unfold okJ; omega
theorem i32_0 : (0 : Int32) = Int32.ofInt 0 := rfl
theorem i64_0 : (0 : Int64) = Int64.ofInt 0 := rfl
theorem okJ_I {x : Int} (h : okI x) : okJ x := by unfold okI at h; unfold okJ; omega
theorem i32_i2l {x : Int} (h : okI x) : (Int32.ofInt x).toInt64 = Int64.ofInt x := by
  apply Int64.toInt_inj.mp
  rw [Int32.toInt_toInt64, i32_to h, i64_to (okJ_I h)]
theorem i64_l2i {x : Int} (h : okI x) : (Int64.ofInt x).toInt32 = Int32.ofInt x := by
  apply Int32.toInt_inj.mp
  rw [Int64.toInt_toInt32, i64_to (okJ_I h), i32_to h]
  unfold okI at h
  apply Int.bmod_eq_of_le <;> omega
theorem i32_nat {x : Int} (h : okI x) (h0 : 0 ≤ x) : (Int32.ofInt x).toNatClampNeg = x.toNat := by
  rw [Int32.toNatClampNeg, i32_to h]
theorem i32_in {x : Int} {n : Nat} (h : okI x) (h0 : 0 ≤ x) (hn : x < n) : vp_in (Int32.ofInt x) n := by
  rw [vp_in_iff, i32_to h]; exact ⟨h0, hn⟩
theorem i32_div {x y : Int} (hx : okI x) (hy : okI y) (h0 : 0 ≤ x) (hy0 : 0 < y) : Int32.ofInt x / Int32.ofInt y = Int32.ofInt (x / y) := by
  apply Int32.toInt_inj.mp
  have h1 : x / y ≤ x := Int.ediv_le_self _ h0
  have h2 : 0 ≤ x / y := Int.ediv_nonneg h0 (by omega)
  have h3 : okI (x / y) := by unfold okI at *; omega
  rw [Int32.toInt_div, i32_to hx, i32_to hy, i32_to h3, Int.tdiv_eq_ediv_of_nonneg h0]
  unfold okI at h3
  apply Int.bmod_eq_of_le <;> omega
theorem i64_div {x y : Int} (hx : okJ x) (hy : okJ y) (h0 : 0 ≤ x) (hy0 : 0 < y) : Int64.ofInt x / Int64.ofInt y = Int64.ofInt (x / y) := by
  apply Int64.toInt_inj.mp
  have h1 : x / y ≤ x := Int.ediv_le_self _ h0
  have h2 : 0 ≤ x / y := Int.ediv_nonneg h0 (by omega)
  have h3 : okJ (x / y) := by unfold okJ at *; omega
  rw [Int64.toInt_div, i64_to hx, i64_to hy, i64_to h3, Int.tdiv_eq_ediv_of_nonneg h0]
  unfold okJ at h3
  apply Int.bmod_eq_of_le <;> omega
theorem i32_rem {x y : Int} (hx : okI x) (hy : okI y) (h0 : 0 ≤ x) (hy0 : 0 < y) : Int32.ofInt x - Int32.ofInt x / Int32.ofInt y * Int32.ofInt y = Int32.ofInt (x % y) := by
  rw [i32_div hx hy h0 hy0, i32_mul, i32_sub]
  congr 1
  rw [Int.emod_def, Int.mul_comm]
theorem i64_rem {x y : Int} (hx : okJ x) (hy : okJ y) (h0 : 0 ≤ x) (hy0 : 0 < y) : Int64.ofInt x - Int64.ofInt x / Int64.ofInt y * Int64.ofInt y = Int64.ofInt (x % y) := by
  rw [i64_div hx hy h0 hy0, i64_mul, i64_sub]
  congr 1
  rw [Int.emod_def, Int.mul_comm]
end
section
/-! ===== the rows of EX, an instruction each ===== -/
section XR
variable {G : aG} {X : aM} {d mc ms : Nat} {Q : Option aV → aH → Prop} {pc : Nat} {L L' : List (Nat × aV)} {st : List aV} {h : aH} {kc ks : Nat}
theorem ok_c {v : aV} {st : List aV} (hv : okV v) (h : ∀ u ∈ st, okV u) : ∀ u ∈ v :: st, okV u := List.forall_mem_cons.mpr ⟨hv, h⟩
theorem ok_h {v : aV} {st : List aV} (h : ∀ u ∈ v :: st, okV u) : okV v := h v List.mem_cons_self
theorem ok_t {v : aV} {st : List aV} (h : ∀ u ∈ v :: st, okV u) : ∀ u ∈ st, okV u := fun u hu => h u (List.mem_cons_of_mem _ hu)
theorem ok_I {x : Int} {st : List aV} (h : ∀ u ∈ vI x :: st, okV u) : okI x := h (vI x) List.mem_cons_self
theorem ok_J {x : Int} {st : List aV} (h : ∀ u ∈ vJ x :: st, okV u) : okJ x := h (vJ x) List.mem_cons_self
def aDel1 (i : Nat) (L : List (Nat × aV)) : List (Nat × aV) := L.filter (fun q => !(q.1 == i) && !(q.1 + 1 == i && (match q.2 with | .inr (.inl _) => true | _ => false)))
def aDel2 (i : Nat) (L : List (Nat × aV)) : List (Nat × aV) := L.filter (fun q => !(q.1 == i) && (!(q.1 == i + 1) && !(q.1 + 1 == i && (match q.2 with | .inr (.inl _) => true | _ => false))))
theorem cv_cat (v : aV) : ((cv v).category == 2) = (match v with | .inr (.inl _) => true | _ => false) := by
  rcases v with x | x | r
  · rfl
  · rfl
  · show ((va_rf r).category == 2) = false
    rw [cv_cat_r]; rfl
theorem aDel1_cv (i : Nat) (L : List (Nat × aV)) : (L.map cvq).filter (fun q => !(q.1 == i) && !(q.1 + 1 == i && q.2.category == 2)) = (aDel1 i L).map cvq := by
  rw [aDel1, List.filter_map]
  congr 1
  apply List.filter_congr
  intro q _
  simp only [Function.comp, cvq, cv_cat]
theorem aDel2_cv (i : Nat) (L : List (Nat × aV)) : (L.map cvq).filter (fun q => !(q.1 == i) && (!(q.1 == i + 1) && !(q.1 + 1 == i && q.2.category == 2))) = (aDel2 i L).map cvq := by
  rw [aDel2, List.filter_map]
  congr 1
  apply List.filter_congr
  intro q _
  simp only [Function.comp, cvq, cv_cat]
theorem aDel1_ok {i : Nat} {L : List (Nat × aV)} {v : aV} (hv : okV v) (h : ∀ q ∈ L, okV q.2) : ∀ q ∈ (i, v) :: aDel1 i L, okV q.2 := by
  intro q hq
  rcases List.mem_cons.mp hq with rfl | hq
  · exact hv
  · exact h q (List.mem_filter.mp hq).1
theorem aDel2_ok {i : Nat} {L : List (Nat × aV)} {v : aV} (hv : okV v) (h : ∀ q ∈ L, okV q.2) : ∀ q ∈ (i, v) :: aDel2 i L, okV q.2 := by
  intro q hq
  rcases List.mem_cons.mp hq with rfl | hq
  · exact hv
  · exact h q (List.mem_filter.mp hq).1
theorem EX.pick (ks' : List Nat) (hL : ks'.filterMap (fun k => L[k]?) = L') (k : EX G X d mc ms Q pc L' st h kc ks) : EX G X d mc ms Q pc L st h kc ks := by
  refine k.drop fun q hq => ?_
  rw [← hL] at hq
  obtain ⟨i, -, hi⟩ := List.mem_filterMap.mp hq
  exact List.mem_of_getElem? hi

theorem x_iconst {n : Int} (hd : decode X.2.1 pc = .ok (.iconst n, 1)) (hn : okI n) (k : EX G X d mc ms Q (pc + 1) L (vI n :: st) h kc ks) : EX G X d mc ms Q pc L st h kc ks := by
  intro p e s m args below meth c A H ls locs C hA w hS ho h1 h2 hl
  exact lv_iconst C.1 C.2.1 hd rfl (k p e s m args below meth c A H ls locs C hA w hS ho (ok_c hn h1) h2 hl)
theorem x_bipush {n : Int} (hd : decode X.2.1 pc = .ok (.bipush n, 2)) (hn : okI n) (hv : (Int8.ofInt n).toInt32 = Int32.ofInt n) (k : EX G X d mc ms Q (pc + 2) L (vI n :: st) h kc ks) : EX G X d mc ms Q pc L st h kc ks := by
  intro p e s m args below meth c A H ls locs C hA w hS ho h1 h2 hl
  exact lv_bipush C.1 C.2.1 hd hv (k p e s m args below meth c A H ls locs C hA w hS ho (ok_c hn h1) h2 hl)
theorem x_sipush {n : Int} (hd : decode X.2.1 pc = .ok (.sipush n, 3)) (hn : okI n) (hv : (Int16.ofInt n).toInt32 = Int32.ofInt n) (k : EX G X d mc ms Q (pc + 3) L (vI n :: st) h kc ks) : EX G X d mc ms Q pc L st h kc ks := by
  intro p e s m args below meth c A H ls locs C hA w hS ho h1 h2 hl
  exact lv_sipush C.1 C.2.1 hd hv (k p e s m args below meth c A H ls locs C hA w hS ho (ok_c hn h1) h2 hl)
theorem x_lconst {n : Fin 2} {x : Int} (hd : decode X.2.1 pc = .ok (.lconst n, 1)) (hn : okJ x) (hv : Int64.ofNat (n : Nat) = Int64.ofInt x) (k : EX G X d mc ms Q (pc + 1) L (vJ x :: st) h kc ks) : EX G X d mc ms Q pc L st h kc ks := by
  intro p e s m args below meth c A H ls locs C hA w hS ho h1 h2 hl
  exact lv_lconst C.1 C.2.1 hd hv (k p e s m args below meth c A H ls locs C hA w hS ho (ok_c hn h1) h2 hl)
theorem x_ldc {n : Int} {idx : Nat} (hd : decode X.2.1 pc = .ok (.ldc idx, 2)) (hn : okI n) (hc : Cond.constant X.1.cls idx (Int32.ofInt n) ∈ lw_ok) (k : EX G X d mc ms Q (pc + 2) L (vI n :: st) h kc ks) : EX G X d mc ms Q pc L st h kc ks := by
  intro p e s m args below meth c A H ls locs C hA w hS ho h1 h2 hl
  exact lv_ldc C.1 C.2.1 C.2.2.2.2.1 (C.2.2.2.2.2.1 _ hc) hd (k p e s m args below meth c A H ls locs C hA w hS ho (ok_c hn h1) h2 hl)
theorem x_ldc2 {n : Int} {idx : Nat} (hd : decode X.2.1 pc = .ok (.ldc2_w idx, 3)) (hn : okJ n) (hc : Cond.constantLong X.1.cls idx (Int64.ofInt n) ∈ lw_ok) (k : EX G X d mc ms Q (pc + 3) L (vJ n :: st) h kc ks) : EX G X d mc ms Q pc L st h kc ks := by
  intro p e s m args below meth c A H ls locs C hA w hS ho h1 h2 hl
  exact lv_ldc2 C.1 C.2.1 C.2.2.2.2.1 (C.2.2.2.2.2.1 _ hc) hd (k p e s m args below meth c A H ls locs C hA w hS ho (ok_c hn h1) h2 hl)
theorem x_null  (hd : decode X.2.1 pc = .ok (.aconst_null, 1)) (k : EX G X d mc ms Q (pc + 1) L (vN :: st) h kc ks) : EX G X d mc ms Q pc L st h kc ks := by
  intro p e s m args below meth c A H ls locs C hA w hS ho h1 h2 hl
  exact lv_null C.1 C.2.1 hd (k p e s m args below meth c A H ls locs C hA w hS ho (ok_c trivial h1) h2 hl)
theorem x_iload {x : Int} {i : Nat} (j : Nat) (hd : decode X.2.1 pc = .ok (.iload i, 2)) (hq : L[j]? = some (i, vI x)) (k : EX G X d mc ms Q (pc + 2) L (vI x :: st) h kc ks) : EX G X d mc ms Q pc L st h kc ks := by
  intro p e s m args below meth c A H ls locs C hA w hS ho h1 h2 hl
  exact lv_iload C.1 C.2.1 hd (hl.2.2 _ (List.mem_map.mpr ⟨_, List.mem_of_getElem? hq, rfl⟩)) (k p e s m args below meth c A H ls locs C hA w hS ho (ok_c (h2 _ (List.mem_of_getElem? hq)) h1) h2 hl)
theorem x_iload_n {x : Int} {i : Nat} {f : Fin 4} (j : Nat) (hd : decode X.2.1 pc = .ok (.iload_n f, 1)) (hi : (f : Nat) = i) (hq : L[j]? = some (i, vI x)) (k : EX G X d mc ms Q (pc + 1) L (vI x :: st) h kc ks) : EX G X d mc ms Q pc L st h kc ks := by
  intro p e s m args below meth c A H ls locs C hA w hS ho h1 h2 hl
  exact lv_iload_n C.1 C.2.1 hd hi (hl.2.2 _ (List.mem_map.mpr ⟨_, List.mem_of_getElem? hq, rfl⟩)) (k p e s m args below meth c A H ls locs C hA w hS ho (ok_c (h2 _ (List.mem_of_getElem? hq)) h1) h2 hl)
theorem x_lload {x : Int} {i : Nat} (j : Nat) (hd : decode X.2.1 pc = .ok (.lload i, 2)) (hq : L[j]? = some (i, vJ x)) (k : EX G X d mc ms Q (pc + 2) L (vJ x :: st) h kc ks) : EX G X d mc ms Q pc L st h kc ks := by
  intro p e s m args below meth c A H ls locs C hA w hS ho h1 h2 hl
  exact lv_lload C.1 C.2.1 hd (hl.2.2 _ (List.mem_map.mpr ⟨_, List.mem_of_getElem? hq, rfl⟩)) (k p e s m args below meth c A H ls locs C hA w hS ho (ok_c (h2 _ (List.mem_of_getElem? hq)) h1) h2 hl)
theorem x_lload_n {x : Int} {i : Nat} {f : Fin 4} (j : Nat) (hd : decode X.2.1 pc = .ok (.lload_n f, 1)) (hi : (f : Nat) = i) (hq : L[j]? = some (i, vJ x)) (k : EX G X d mc ms Q (pc + 1) L (vJ x :: st) h kc ks) : EX G X d mc ms Q pc L st h kc ks := by
  intro p e s m args below meth c A H ls locs C hA w hS ho h1 h2 hl
  exact lv_lload_n C.1 C.2.1 hd hi (hl.2.2 _ (List.mem_map.mpr ⟨_, List.mem_of_getElem? hq, rfl⟩)) (k p e s m args below meth c A H ls locs C hA w hS ho (ok_c (h2 _ (List.mem_of_getElem? hq)) h1) h2 hl)
theorem x_aload {x : Nat} {i : Nat} (j : Nat) (hd : decode X.2.1 pc = .ok (.aload i, 2)) (hq : L[j]? = some (i, vA x)) (k : EX G X d mc ms Q (pc + 2) L (vA x :: st) h kc ks) : EX G X d mc ms Q pc L st h kc ks := by
  intro p e s m args below meth c A H ls locs C hA w hS ho h1 h2 hl
  exact lv_aload C.1 C.2.1 hd (hl.2.2 _ (List.mem_map.mpr ⟨_, List.mem_of_getElem? hq, rfl⟩)) (k p e s m args below meth c A H ls locs C hA w hS ho (ok_c (h2 _ (List.mem_of_getElem? hq)) h1) h2 hl)
theorem x_aload_n {x : Nat} {i : Nat} {f : Fin 4} (j : Nat) (hd : decode X.2.1 pc = .ok (.aload_n f, 1)) (hi : (f : Nat) = i) (hq : L[j]? = some (i, vA x)) (k : EX G X d mc ms Q (pc + 1) L (vA x :: st) h kc ks) : EX G X d mc ms Q pc L st h kc ks := by
  intro p e s m args below meth c A H ls locs C hA w hS ho h1 h2 hl
  exact lv_aload_n C.1 C.2.1 hd hi (hl.2.2 _ (List.mem_map.mpr ⟨_, List.mem_of_getElem? hq, rfl⟩)) (k p e s m args below meth c A H ls locs C hA w hS ho (ok_c (h2 _ (List.mem_of_getElem? hq)) h1) h2 hl)
theorem x_aloadr {r : Option Nat} {i : Nat} (j : Nat) (hd : decode X.2.1 pc = .ok (.aload i, 2)) (hq : L[j]? = some (i, vR r)) (k : EX G X d mc ms Q (pc + 2) L (vR r :: st) h kc ks) : EX G X d mc ms Q pc L st h kc ks := by
  intro p e s m args below meth c A H ls locs C hA w hS ho h1 h2 hl
  cases r with
  | none => exact lv_aloadN C.1 C.2.1 hd (hl.2.2 _ (List.mem_map.mpr ⟨_, List.mem_of_getElem? hq, rfl⟩)) (k p e s m args below meth c A H ls locs C hA w hS ho (ok_c (h2 _ (List.mem_of_getElem? hq)) h1) h2 hl)
  | some a => exact lv_aload C.1 C.2.1 hd (hl.2.2 _ (List.mem_map.mpr ⟨_, List.mem_of_getElem? hq, rfl⟩)) (k p e s m args below meth c A H ls locs C hA w hS ho (ok_c (h2 _ (List.mem_of_getElem? hq)) h1) h2 hl)
theorem x_aloadr_n {r : Option Nat} {i : Nat} {f : Fin 4} (j : Nat) (hd : decode X.2.1 pc = .ok (.aload_n f, 1)) (hi : (f : Nat) = i) (hq : L[j]? = some (i, vR r)) (k : EX G X d mc ms Q (pc + 1) L (vR r :: st) h kc ks) : EX G X d mc ms Q pc L st h kc ks := by
  intro p e s m args below meth c A H ls locs C hA w hS ho h1 h2 hl
  cases r with
  | none => exact lv_aload_nN C.1 C.2.1 hd hi (hl.2.2 _ (List.mem_map.mpr ⟨_, List.mem_of_getElem? hq, rfl⟩)) (k p e s m args below meth c A H ls locs C hA w hS ho (ok_c (h2 _ (List.mem_of_getElem? hq)) h1) h2 hl)
  | some a => exact lv_aload_n C.1 C.2.1 hd hi (hl.2.2 _ (List.mem_map.mpr ⟨_, List.mem_of_getElem? hq, rfl⟩)) (k p e s m args below meth c A H ls locs C hA w hS ho (ok_c (h2 _ (List.mem_of_getElem? hq)) h1) h2 hl)
theorem x_istore {x : Int} {i : Nat} (hd : decode X.2.1 pc = .ok (.istore i, 2)) (hn : i < X.2.2.1) (hL : (i, vI x) :: aDel1 i L = L') (k : EX G X d mc ms Q (pc + 2) L' st h kc ks) : EX G X d mc ms Q pc L (vI x :: st) h kc ks := by
  intro p e s m args below meth c A H ls locs C hA w hS ho h1 h2 hl
  refine lv_istore C.1 C.2.1 hd hl hn (lv' := (L').map cvq) ?_ fun ls' hl' => ?_
  · rw [aDel1_cv, ← hL]; rfl
  · subst hL
    exact k p e s m args below meth c A H ls' locs C hA w hS ho (ok_t h1) (aDel1_ok (ok_h h1) h2) hl'
theorem x_istore_n {x : Int} {i : Nat} {f : Fin 4} (hd : decode X.2.1 pc = .ok (.istore_n f, 1)) (hi : (f : Nat) = i) (hn : i < X.2.2.1) (hL : (i, vI x) :: aDel1 i L = L') (k : EX G X d mc ms Q (pc + 1) L' st h kc ks) : EX G X d mc ms Q pc L (vI x :: st) h kc ks := by
  intro p e s m args below meth c A H ls locs C hA w hS ho h1 h2 hl
  refine lv_istore_n C.1 C.2.1 hd hi hl hn (lv' := (L').map cvq) ?_ fun ls' hl' => ?_
  · rw [aDel1_cv, ← hL]; rfl
  · subst hL
    exact k p e s m args below meth c A H ls' locs C hA w hS ho (ok_t h1) (aDel1_ok (ok_h h1) h2) hl'
theorem x_lstore {x : Int} {i : Nat} (hd : decode X.2.1 pc = .ok (.lstore i, 2)) (hn : i + 1 < X.2.2.1) (hL : (i, vJ x) :: aDel2 i L = L') (k : EX G X d mc ms Q (pc + 2) L' st h kc ks) : EX G X d mc ms Q pc L (vJ x :: st) h kc ks := by
  intro p e s m args below meth c A H ls locs C hA w hS ho h1 h2 hl
  refine lv_lstore C.1 C.2.1 hd hl hn (lv' := (L').map cvq) ?_ fun ls' hl' => ?_
  · rw [aDel2_cv, ← hL]; rfl
  · subst hL
    exact k p e s m args below meth c A H ls' locs C hA w hS ho (ok_t h1) (aDel2_ok (ok_h h1) h2) hl'
theorem x_lstore_n {x : Int} {i : Nat} {f : Fin 4} (hd : decode X.2.1 pc = .ok (.lstore_n f, 1)) (hi : (f : Nat) = i) (hn : i + 1 < X.2.2.1) (hL : (i, vJ x) :: aDel2 i L = L') (k : EX G X d mc ms Q (pc + 1) L' st h kc ks) : EX G X d mc ms Q pc L (vJ x :: st) h kc ks := by
  intro p e s m args below meth c A H ls locs C hA w hS ho h1 h2 hl
  refine lv_lstore_n C.1 C.2.1 hd hi hl hn (lv' := (L').map cvq) ?_ fun ls' hl' => ?_
  · rw [aDel2_cv, ← hL]; rfl
  · subst hL
    exact k p e s m args below meth c A H ls' locs C hA w hS ho (ok_t h1) (aDel2_ok (ok_h h1) h2) hl'
theorem x_astore {x : Nat} {i : Nat} (hd : decode X.2.1 pc = .ok (.astore i, 2)) (hn : i < X.2.2.1) (hL : (i, vA x) :: aDel1 i L = L') (k : EX G X d mc ms Q (pc + 2) L' st h kc ks) : EX G X d mc ms Q pc L (vA x :: st) h kc ks := by
  intro p e s m args below meth c A H ls locs C hA w hS ho h1 h2 hl
  refine lv_astore C.1 C.2.1 hd hl hn (lv' := (L').map cvq) ?_ fun ls' hl' => ?_
  · rw [aDel1_cv, ← hL]; rfl
  · subst hL
    exact k p e s m args below meth c A H ls' locs C hA w hS ho (ok_t h1) (aDel1_ok (ok_h h1) h2) hl'
theorem x_astore_n {x : Nat} {i : Nat} {f : Fin 4} (hd : decode X.2.1 pc = .ok (.astore_n f, 1)) (hi : (f : Nat) = i) (hn : i < X.2.2.1) (hL : (i, vA x) :: aDel1 i L = L') (k : EX G X d mc ms Q (pc + 1) L' st h kc ks) : EX G X d mc ms Q pc L (vA x :: st) h kc ks := by
  intro p e s m args below meth c A H ls locs C hA w hS ho h1 h2 hl
  refine lv_astore_n C.1 C.2.1 hd hi hl hn (lv' := (L').map cvq) ?_ fun ls' hl' => ?_
  · rw [aDel1_cv, ← hL]; rfl
  · subst hL
    exact k p e s m args below meth c A H ls' locs C hA w hS ho (ok_t h1) (aDel1_ok (ok_h h1) h2) hl'
theorem x_astorer {r : Option Nat} {i : Nat} (hd : decode X.2.1 pc = .ok (.astore i, 2)) (hn : i < X.2.2.1) (hL : (i, vR r) :: aDel1 i L = L') (k : EX G X d mc ms Q (pc + 2) L' st h kc ks) : EX G X d mc ms Q pc L (vR r :: st) h kc ks := by
  intro p e s m args below meth c A H ls locs C hA w hS ho h1 h2 hl
  cases r with
  | none =>
    refine lv_astoreN C.1 C.2.1 hd hl hn (lv' := (L').map cvq) ?_ fun ls' hl' => ?_
    · rw [aDel1_cv, ← hL]; rfl
    · subst hL
      exact k p e s m args below meth c A H ls' locs C hA w hS ho (ok_t h1) (aDel1_ok (ok_h h1) h2) hl'
  | some a =>
    refine lv_astore C.1 C.2.1 hd hl hn (lv' := (L').map cvq) ?_ fun ls' hl' => ?_
    · rw [aDel1_cv, ← hL]; rfl
    · subst hL
      exact k p e s m args below meth c A H ls' locs C hA w hS ho (ok_t h1) (aDel1_ok (ok_h h1) h2) hl' 
theorem x_astorer_n {r : Option Nat} {i : Nat} {f : Fin 4} (hd : decode X.2.1 pc = .ok (.astore_n f, 1)) (hi : (f : Nat) = i) (hn : i < X.2.2.1) (hL : (i, vR r) :: aDel1 i L = L') (k : EX G X d mc ms Q (pc + 1) L' st h kc ks) : EX G X d mc ms Q pc L (vR r :: st) h kc ks := by
  intro p e s m args below meth c A H ls locs C hA w hS ho h1 h2 hl
  cases r with
  | none =>
    refine lv_astore_nN C.1 C.2.1 hd hi hl hn (lv' := (L').map cvq) ?_ fun ls' hl' => ?_
    · rw [aDel1_cv, ← hL]; rfl
    · subst hL
      exact k p e s m args below meth c A H ls' locs C hA w hS ho (ok_t h1) (aDel1_ok (ok_h h1) h2) hl'
  | some a =>
    refine lv_astore_n C.1 C.2.1 hd hi hl hn (lv' := (L').map cvq) ?_ fun ls' hl' => ?_
    · rw [aDel1_cv, ← hL]; rfl
    · subst hL
      exact k p e s m args below meth c A H ls' locs C hA w hS ho (ok_t h1) (aDel1_ok (ok_h h1) h2) hl' 
theorem x_iinc {x n : Int} {i : Nat} (j : Nat) (hd : decode X.2.1 pc = .ok (.iinc i n, 3)) (hq : L[j]? = some (i, vI x)) (hx : okI (x + n)) (hn : i < X.2.2.1) (hL : (i, vI (x + n)) :: aDel1 i L = L') (k : EX G X d mc ms Q (pc + 3) L' st h kc ks) : EX G X d mc ms Q pc L st h kc ks := by
  intro p e s m args below meth c A H ls locs C hA w hS ho h1 h2 hl
  refine lv_iinc (k := j) (x := Int32.ofInt x) (v := Int32.ofInt (x + n)) C.1 C.2.1 hd hl ?_ (i32_add x n) hn (lv' := (L').map cvq) ?_ fun ls' hl' => ?_
  · rw [List.getElem?_map, hq]; rfl
  · rw [aDel1_cv, ← hL]; rfl
  · subst hL
    exact k p e s m args below meth c A H ls' locs C hA w hS ho h1 (aDel1_ok hx h2) hl' 
theorem x_iadd {x y : Int} (hd : decode X.2.1 pc = .ok (.iadd, 1)) (hv : okI (x + y)) (k : EX G X d mc ms Q (pc + 1) L (vI (x + y) :: st) h kc ks) : EX G X d mc ms Q pc L (vI y :: vI x :: st) h kc ks := by
  intro p e s m args below meth c A H ls locs C hA w hS ho h1 h2 hl
  refine lv_iadd C.1 C.2.1 hd ?_
  rw [i32_add]
  exact k p e s m args below meth c A H ls locs C hA w hS ho (ok_c hv (ok_t (ok_t h1))) h2 hl
theorem x_iaddW {x y v : Int} (hd : decode X.2.1 pc = .ok (.iadd, 1)) (hv : okI v) (he : Int32.ofInt (x + y) = Int32.ofInt v) (k : EX G X d mc ms Q (pc + 1) L (vI v :: st) h kc ks) : EX G X d mc ms Q pc L (vI y :: vI x :: st) h kc ks := by
  intro p e s m args below meth c A H ls locs C hA w hS ho h1 h2 hl
  refine lv_iadd C.1 C.2.1 hd ?_
  rw [i32_add, he]
  exact k p e s m args below meth c A H ls locs C hA w hS ho (ok_c hv (ok_t (ok_t h1))) h2 hl
theorem x_isub {x y : Int} (hd : decode X.2.1 pc = .ok (.isub, 1)) (hv : okI (x - y)) (k : EX G X d mc ms Q (pc + 1) L (vI (x - y) :: st) h kc ks) : EX G X d mc ms Q pc L (vI y :: vI x :: st) h kc ks := by
  intro p e s m args below meth c A H ls locs C hA w hS ho h1 h2 hl
  refine lv_isub C.1 C.2.1 hd ?_
  rw [i32_sub]
  exact k p e s m args below meth c A H ls locs C hA w hS ho (ok_c hv (ok_t (ok_t h1))) h2 hl
theorem x_isubW {x y v : Int} (hd : decode X.2.1 pc = .ok (.isub, 1)) (hv : okI v) (he : Int32.ofInt (x - y) = Int32.ofInt v) (k : EX G X d mc ms Q (pc + 1) L (vI v :: st) h kc ks) : EX G X d mc ms Q pc L (vI y :: vI x :: st) h kc ks := by
  intro p e s m args below meth c A H ls locs C hA w hS ho h1 h2 hl
  refine lv_isub C.1 C.2.1 hd ?_
  rw [i32_sub, he]
  exact k p e s m args below meth c A H ls locs C hA w hS ho (ok_c hv (ok_t (ok_t h1))) h2 hl
theorem x_imul {x y : Int} (hd : decode X.2.1 pc = .ok (.imul, 1)) (hv : okI (x * y)) (k : EX G X d mc ms Q (pc + 1) L (vI (x * y) :: st) h kc ks) : EX G X d mc ms Q pc L (vI y :: vI x :: st) h kc ks := by
  intro p e s m args below meth c A H ls locs C hA w hS ho h1 h2 hl
  refine lv_imul C.1 C.2.1 hd ?_
  rw [i32_mul]
  exact k p e s m args below meth c A H ls locs C hA w hS ho (ok_c hv (ok_t (ok_t h1))) h2 hl
theorem x_imulW {x y v : Int} (hd : decode X.2.1 pc = .ok (.imul, 1)) (hv : okI v) (he : Int32.ofInt (x * y) = Int32.ofInt v) (k : EX G X d mc ms Q (pc + 1) L (vI v :: st) h kc ks) : EX G X d mc ms Q pc L (vI y :: vI x :: st) h kc ks := by
  intro p e s m args below meth c A H ls locs C hA w hS ho h1 h2 hl
  refine lv_imul C.1 C.2.1 hd ?_
  rw [i32_mul, he]
  exact k p e s m args below meth c A H ls locs C hA w hS ho (ok_c hv (ok_t (ok_t h1))) h2 hl
theorem x_ladd {x y : Int} (hd : decode X.2.1 pc = .ok (.ladd, 1)) (hv : okJ (x + y)) (k : EX G X d mc ms Q (pc + 1) L (vJ (x + y) :: st) h kc ks) : EX G X d mc ms Q pc L (vJ y :: vJ x :: st) h kc ks := by
  intro p e s m args below meth c A H ls locs C hA w hS ho h1 h2 hl
  refine lv_ladd C.1 C.2.1 hd ?_
  rw [i64_add]
  exact k p e s m args below meth c A H ls locs C hA w hS ho (ok_c hv (ok_t (ok_t h1))) h2 hl
theorem x_laddW {x y v : Int} (hd : decode X.2.1 pc = .ok (.ladd, 1)) (hv : okJ v) (he : Int64.ofInt (x + y) = Int64.ofInt v) (k : EX G X d mc ms Q (pc + 1) L (vJ v :: st) h kc ks) : EX G X d mc ms Q pc L (vJ y :: vJ x :: st) h kc ks := by
  intro p e s m args below meth c A H ls locs C hA w hS ho h1 h2 hl
  refine lv_ladd C.1 C.2.1 hd ?_
  rw [i64_add, he]
  exact k p e s m args below meth c A H ls locs C hA w hS ho (ok_c hv (ok_t (ok_t h1))) h2 hl
theorem x_lsub {x y : Int} (hd : decode X.2.1 pc = .ok (.lsub, 1)) (hv : okJ (x - y)) (k : EX G X d mc ms Q (pc + 1) L (vJ (x - y) :: st) h kc ks) : EX G X d mc ms Q pc L (vJ y :: vJ x :: st) h kc ks := by
  intro p e s m args below meth c A H ls locs C hA w hS ho h1 h2 hl
  refine lv_lsub C.1 C.2.1 hd ?_
  rw [i64_sub]
  exact k p e s m args below meth c A H ls locs C hA w hS ho (ok_c hv (ok_t (ok_t h1))) h2 hl
theorem x_lsubW {x y v : Int} (hd : decode X.2.1 pc = .ok (.lsub, 1)) (hv : okJ v) (he : Int64.ofInt (x - y) = Int64.ofInt v) (k : EX G X d mc ms Q (pc + 1) L (vJ v :: st) h kc ks) : EX G X d mc ms Q pc L (vJ y :: vJ x :: st) h kc ks := by
  intro p e s m args below meth c A H ls locs C hA w hS ho h1 h2 hl
  refine lv_lsub C.1 C.2.1 hd ?_
  rw [i64_sub, he]
  exact k p e s m args below meth c A H ls locs C hA w hS ho (ok_c hv (ok_t (ok_t h1))) h2 hl
theorem x_lmul {x y : Int} (hd : decode X.2.1 pc = .ok (.lmul, 1)) (hv : okJ (x * y)) (k : EX G X d mc ms Q (pc + 1) L (vJ (x * y) :: st) h kc ks) : EX G X d mc ms Q pc L (vJ y :: vJ x :: st) h kc ks := by
  intro p e s m args below meth c A H ls locs C hA w hS ho h1 h2 hl
  refine lv_lmul C.1 C.2.1 hd ?_
  rw [i64_mul]
  exact k p e s m args below meth c A H ls locs C hA w hS ho (ok_c hv (ok_t (ok_t h1))) h2 hl
theorem x_lmulW {x y v : Int} (hd : decode X.2.1 pc = .ok (.lmul, 1)) (hv : okJ v) (he : Int64.ofInt (x * y) = Int64.ofInt v) (k : EX G X d mc ms Q (pc + 1) L (vJ v :: st) h kc ks) : EX G X d mc ms Q pc L (vJ y :: vJ x :: st) h kc ks := by
  intro p e s m args below meth c A H ls locs C hA w hS ho h1 h2 hl
  refine lv_lmul C.1 C.2.1 hd ?_
  rw [i64_mul, he]
  exact k p e s m args below meth c A H ls locs C hA w hS ho (ok_c hv (ok_t (ok_t h1))) h2 hl
theorem x_idiv {x y : Int} (hd : decode X.2.1 pc = .ok (.idiv, 1)) (hx : 0 ≤ x) (hy : 0 < y) (k : EX G X d mc ms Q (pc + 1) L (vI (x / y) :: st) h kc ks) : EX G X d mc ms Q pc L (vI y :: vI x :: st) h kc ks := by
  intro p e s m args below meth c A H ls locs C hA w hS ho h1 h2 hl
  have oy := ok_I h1
  have ox := ok_I (ok_t h1)
  refine lv_idiv C.1 C.2.1 hd ?_ ?_
  · intro q
    have := (i32_eq oy okI_0).mp q
    omega
  · rw [i32_div ox oy hx hy]
    have hv : okI (x / y) := by
      have e1 : 0 ≤ x / y := Int.ediv_nonneg hx (by omega)
      have e2 : x / y ≤ x := Int.ediv_le_self _ hx
      have e3 : 0 ≤ x % y := Int.emod_nonneg _ (by omega)
      have e4 : x % y < y := Int.emod_lt_of_pos _ hy
      unfold okI at *
      omega
    exact k p e s m args below meth c A H ls locs C hA w hS ho (ok_c hv (ok_t (ok_t h1))) h2 hl
theorem x_irem {x y : Int} (hd : decode X.2.1 pc = .ok (.irem, 1)) (hx : 0 ≤ x) (hy : 0 < y) (k : EX G X d mc ms Q (pc + 1) L (vI (x % y) :: st) h kc ks) : EX G X d mc ms Q pc L (vI y :: vI x :: st) h kc ks := by
  intro p e s m args below meth c A H ls locs C hA w hS ho h1 h2 hl
  have oy := ok_I h1
  have ox := ok_I (ok_t h1)
  refine lv_irem C.1 C.2.1 hd ?_ ?_
  · intro q
    have := (i32_eq oy okI_0).mp q
    omega
  · rw [i32_rem ox oy hx hy]
    have hv : okI (x % y) := by
      have e1 : 0 ≤ x / y := Int.ediv_nonneg hx (by omega)
      have e2 : x / y ≤ x := Int.ediv_le_self _ hx
      have e3 : 0 ≤ x % y := Int.emod_nonneg _ (by omega)
      have e4 : x % y < y := Int.emod_lt_of_pos _ hy
      unfold okI at *
      omega
    exact k p e s m args below meth c A H ls locs C hA w hS ho (ok_c hv (ok_t (ok_t h1))) h2 hl
theorem x_ldiv {x y : Int} (hd : decode X.2.1 pc = .ok (.ldiv, 1)) (hx : 0 ≤ x) (hy : 0 < y) (k : EX G X d mc ms Q (pc + 1) L (vJ (x / y) :: st) h kc ks) : EX G X d mc ms Q pc L (vJ y :: vJ x :: st) h kc ks := by
  intro p e s m args below meth c A H ls locs C hA w hS ho h1 h2 hl
  have oy := ok_J h1
  have ox := ok_J (ok_t h1)
  refine lv_ldiv C.1 C.2.1 hd ?_ ?_
  · intro q
    have := (i64_eq oy okJ_0).mp q
    omega
  · rw [i64_div ox oy hx hy]
    have hv : okJ (x / y) := by
      have e1 : 0 ≤ x / y := Int.ediv_nonneg hx (by omega)
      have e2 : x / y ≤ x := Int.ediv_le_self _ hx
      have e3 : 0 ≤ x % y := Int.emod_nonneg _ (by omega)
      have e4 : x % y < y := Int.emod_lt_of_pos _ hy
      unfold okJ at *
      omega
    exact k p e s m args below meth c A H ls locs C hA w hS ho (ok_c hv (ok_t (ok_t h1))) h2 hl
theorem x_lrem {x y : Int} (hd : decode X.2.1 pc = .ok (.lrem, 1)) (hx : 0 ≤ x) (hy : 0 < y) (k : EX G X d mc ms Q (pc + 1) L (vJ (x % y) :: st) h kc ks) : EX G X d mc ms Q pc L (vJ y :: vJ x :: st) h kc ks := by
  intro p e s m args below meth c A H ls locs C hA w hS ho h1 h2 hl
  have oy := ok_J h1
  have ox := ok_J (ok_t h1)
  refine lv_lrem C.1 C.2.1 hd ?_ ?_
  · intro q
    have := (i64_eq oy okJ_0).mp q
    omega
  · rw [i64_rem ox oy hx hy]
    have hv : okJ (x % y) := by
      have e1 : 0 ≤ x / y := Int.ediv_nonneg hx (by omega)
      have e2 : x / y ≤ x := Int.ediv_le_self _ hx
      have e3 : 0 ≤ x % y := Int.emod_nonneg _ (by omega)
      have e4 : x % y < y := Int.emod_lt_of_pos _ hy
      unfold okJ at *
      omega
    exact k p e s m args below meth c A H ls locs C hA w hS ho (ok_c hv (ok_t (ok_t h1))) h2 hl
theorem x_i2l {x : Int} (hd : decode X.2.1 pc = .ok (.i2l, 1)) (k : EX G X d mc ms Q (pc + 1) L (vJ x :: st) h kc ks) : EX G X d mc ms Q pc L (vI x :: st) h kc ks := by
  intro p e s m args below meth c A H ls locs C hA w hS ho h1 h2 hl
  exact lv_i2l C.1 C.2.1 hd (i32_i2l (ok_I h1)) (k p e s m args below meth c A H ls locs C hA w hS ho (ok_c (okJ_I (ok_I h1)) (ok_t h1)) h2 hl)
theorem x_l2i {x : Int} (hd : decode X.2.1 pc = .ok (.l2i, 1)) (hx : okI x) (k : EX G X d mc ms Q (pc + 1) L (vI x :: st) h kc ks) : EX G X d mc ms Q pc L (vJ x :: st) h kc ks := by
  intro p e s m args below meth c A H ls locs C hA w hS ho h1 h2 hl
  exact lv_l2i C.1 C.2.1 hd (i64_l2i hx) (k p e s m args below meth c A H ls locs C hA w hS ho (ok_c hx (ok_t h1)) h2 hl)
theorem x_iand {x y v : Int} (hd : decode X.2.1 pc = .ok (.iand, 1)) (hv : okI v) (he : Int32.ofInt x &&& Int32.ofInt y = Int32.ofInt v) (k : EX G X d mc ms Q (pc + 1) L (vI v :: st) h kc ks) : EX G X d mc ms Q pc L (vI y :: vI x :: st) h kc ks := by
  intro p e s m args below meth c A H ls locs C hA w hS ho h1 h2 hl
  refine lv_iand C.1 C.2.1 hd ?_
  rw [he]
  exact k p e s m args below meth c A H ls locs C hA w hS ho (ok_c hv (ok_t (ok_t h1))) h2 hl
theorem x_ishl {x y v : Int} (hd : decode X.2.1 pc = .ok (.ishl, 1)) (hv : okI v) (he : Int32.ofInt x <<< (Int32.ofInt y &&& 31) = Int32.ofInt v) (k : EX G X d mc ms Q (pc + 1) L (vI v :: st) h kc ks) : EX G X d mc ms Q pc L (vI y :: vI x :: st) h kc ks := by
  intro p e s m args below meth c A H ls locs C hA w hS ho h1 h2 hl
  refine lv_ishl C.1 C.2.1 hd ?_
  rw [he]
  exact k p e s m args below meth c A H ls locs C hA w hS ho (ok_c hv (ok_t (ok_t h1))) h2 hl
theorem x_ishr {x y v : Int} (hd : decode X.2.1 pc = .ok (.ishr, 1)) (hv : okI v) (he : Int32.ofInt x >>> (Int32.ofInt y &&& 31) = Int32.ofInt v) (k : EX G X d mc ms Q (pc + 1) L (vI v :: st) h kc ks) : EX G X d mc ms Q pc L (vI y :: vI x :: st) h kc ks := by
  intro p e s m args below meth c A H ls locs C hA w hS ho h1 h2 hl
  refine lv_ishr C.1 C.2.1 hd ?_
  rw [he]
  exact k p e s m args below meth c A H ls locs C hA w hS ho (ok_c hv (ok_t (ok_t h1))) h2 hl
theorem x_land {x y v : Int} (hd : decode X.2.1 pc = .ok (.land, 1)) (hv : okJ v) (he : Int64.ofInt x &&& Int64.ofInt y = Int64.ofInt v) (k : EX G X d mc ms Q (pc + 1) L (vJ v :: st) h kc ks) : EX G X d mc ms Q pc L (vJ y :: vJ x :: st) h kc ks := by
  intro p e s m args below meth c A H ls locs C hA w hS ho h1 h2 hl
  refine lv_land C.1 C.2.1 hd ?_
  rw [he]
  exact k p e s m args below meth c A H ls locs C hA w hS ho (ok_c hv (ok_t (ok_t h1))) h2 hl
theorem x_lshr {x y v : Int} (hd : decode X.2.1 pc = .ok (.lshr, 1)) (hv : okJ v) (he : Int64.ofInt x >>> ((Int32.ofInt y).toInt64 &&& 63) = Int64.ofInt v) (k : EX G X d mc ms Q (pc + 1) L (vJ v :: st) h kc ks) : EX G X d mc ms Q pc L (vI y :: vJ x :: st) h kc ks := by
  intro p e s m args below meth c A H ls locs C hA w hS ho h1 h2 hl
  exact lv_lshr C.1 C.2.1 hd he (k p e s m args below meth c A H ls locs C hA w hS ho (ok_c hv (ok_t (ok_t h1))) h2 hl)
theorem x_dup {v : aV} (hd : decode X.2.1 pc = .ok (.dup, 1)) (hc : (cv v).category = 1) (k : EX G X d mc ms Q (pc + 1) L (v :: v :: st) h kc ks) : EX G X d mc ms Q pc L (v :: st) h kc ks := by
  intro p e s m args below meth c A H ls locs C hA w hS ho h1 h2 hl
  exact lv_dup C.1 C.2.1 hd hc (k p e s m args below meth c A H ls locs C hA w hS ho (ok_c (ok_h h1) h1) h2 hl)
theorem x_dup2 {u v : aV} (hd : decode X.2.1 pc = .ok (.dup2, 1)) (hc : (cv u).category = 1) (hc2 : (cv v).category = 1) (k : EX G X d mc ms Q (pc + 1) L (u :: v :: u :: v :: st) h kc ks) : EX G X d mc ms Q pc L (u :: v :: st) h kc ks := by
  intro p e s m args below meth c A H ls locs C hA w hS ho h1 h2 hl
  exact lv_dup2_11 C.1 C.2.1 hd hc hc2 (k p e s m args below meth c A H ls locs C hA w hS ho (ok_c (ok_h h1) (ok_c (ok_h (ok_t h1)) h1)) h2 hl)
theorem x_dup2J {x : Int} (hd : decode X.2.1 pc = .ok (.dup2, 1)) (k : EX G X d mc ms Q (pc + 1) L (vJ x :: vJ x :: st) h kc ks) : EX G X d mc ms Q pc L (vJ x :: st) h kc ks := by
  intro p e s m args below meth c A H ls locs C hA w hS ho h1 h2 hl
  exact lv_dup2_2 C.1 C.2.1 hd rfl (k p e s m args below meth c A H ls locs C hA w hS ho (ok_c (ok_h h1) h1) h2 hl)
theorem x_goto {off : Int} (tgt : Nat) (hd : decode X.2.1 pc = .ok (.goto off, 3)) (ht : (pc : Int) + off = (tgt : Int)) (k : EX G X d mc ms Q tgt L st h kc ks) : EX G X d mc ms Q pc L st h kc ks := by
  intro p e s m args below meth c A H ls locs C hA w hS ho h1 h2 hl
  exact lv_goto C.1 C.2.1 hd ht (k p e s m args below meth c A H ls locs C hA w hS ho h1 h2 hl)
theorem x_icmp_eq {x y : Int} {off : Int} (tgt : Nat) (hd : decode X.2.1 pc = .ok (.if_icmp .eq off, 3)) (ht : (pc : Int) + off = (tgt : Int)) (kt : x = y → EX G X d mc ms Q tgt L st h kc ks) (kf : x ≠ y → EX G X d mc ms Q (pc + 3) L st h kc ks) : EX G X d mc ms Q pc L (vI y :: vI x :: st) h kc ks := by
  intro p e s m args below meth c A H ls locs C hA w hS ho h1 h2 hl
  have oy := ok_I h1
  have ox := ok_I (ok_t h1)
  exact lv_icmp_eq C.1 C.2.1 hd ht (fun q => kt ((i32_eq ox oy).mp q) p e s m args below meth c A H ls locs C hA w hS ho (ok_t (ok_t h1)) h2 hl) (fun q => kf (fun z => q ((i32_eq ox oy).mpr z)) p e s m args below meth c A H ls locs C hA w hS ho (ok_t (ok_t h1)) h2 hl)
theorem x_if_eq {x : Int} {off : Int} (tgt : Nat) (hd : decode X.2.1 pc = .ok (.ifCond .eq off, 3)) (ht : (pc : Int) + off = (tgt : Int)) (kt : x = 0 → EX G X d mc ms Q tgt L st h kc ks) (kf : x ≠ 0 → EX G X d mc ms Q (pc + 3) L st h kc ks) : EX G X d mc ms Q pc L (vI x :: st) h kc ks := by
  intro p e s m args below meth c A H ls locs C hA w hS ho h1 h2 hl
  have ox := ok_I h1
  exact lv_if_eq C.1 C.2.1 hd ht (fun q => kt ((i32_eq ox okI_0).mp q) p e s m args below meth c A H ls locs C hA w hS ho (ok_t h1) h2 hl) (fun q => kf (fun z => q ((i32_eq ox okI_0).mpr z)) p e s m args below meth c A H ls locs C hA w hS ho (ok_t h1) h2 hl)
theorem x_lc_eq {x y : Int} {off : Int} (tgt : Nat) (hd1 : decode X.2.1 pc = .ok (.lcmp, 1)) (hd : decode X.2.1 (pc + 1) = .ok (.ifCond .eq off, 3)) (ht : ((pc + 1 : Nat) : Int) + off = (tgt : Int)) (kt : x = y → EX G X d mc ms Q tgt L st h kc ks) (kf : x ≠ y → EX G X d mc ms Q (pc + 4) L st h kc ks) : EX G X d mc ms Q pc L (vJ y :: vJ x :: st) h kc ks := by
  intro p e s m args below meth c A H ls locs C hA w hS ho h1 h2 hl
  have oy := ok_J h1
  have ox := ok_J (ok_t h1)
  refine W.lcmp C.1 C.2.1 hd1 ?_
  exact lv_if_eq C.1 C.2.1 hd ht (fun q => kt ((i64_eq ox oy).mp ((lg_cmp_eq _ _).mp q)) p e s m args below meth c A H ls locs C hA w hS ho (ok_t (ok_t h1)) h2 hl) (fun q => kf (fun z => q ((lg_cmp_eq _ _).mpr ((i64_eq ox oy).mpr z))) p e s m args below meth c A H ls locs C hA w hS ho (ok_t (ok_t h1)) h2 hl)
theorem x_icmp_ne {x y : Int} {off : Int} (tgt : Nat) (hd : decode X.2.1 pc = .ok (.if_icmp .ne off, 3)) (ht : (pc : Int) + off = (tgt : Int)) (kt : x ≠ y → EX G X d mc ms Q tgt L st h kc ks) (kf : x = y → EX G X d mc ms Q (pc + 3) L st h kc ks) : EX G X d mc ms Q pc L (vI y :: vI x :: st) h kc ks := by
  intro p e s m args below meth c A H ls locs C hA w hS ho h1 h2 hl
  have oy := ok_I h1
  have ox := ok_I (ok_t h1)
  exact lv_icmp_ne C.1 C.2.1 hd ht (fun q => kt (fun z => q ((i32_eq ox oy).mpr z)) p e s m args below meth c A H ls locs C hA w hS ho (ok_t (ok_t h1)) h2 hl) (fun q => kf ((i32_eq ox oy).mp q) p e s m args below meth c A H ls locs C hA w hS ho (ok_t (ok_t h1)) h2 hl)
theorem x_if_ne {x : Int} {off : Int} (tgt : Nat) (hd : decode X.2.1 pc = .ok (.ifCond .ne off, 3)) (ht : (pc : Int) + off = (tgt : Int)) (kt : x ≠ 0 → EX G X d mc ms Q tgt L st h kc ks) (kf : x = 0 → EX G X d mc ms Q (pc + 3) L st h kc ks) : EX G X d mc ms Q pc L (vI x :: st) h kc ks := by
  intro p e s m args below meth c A H ls locs C hA w hS ho h1 h2 hl
  have ox := ok_I h1
  exact lv_if_ne C.1 C.2.1 hd ht (fun q => kt (fun z => q ((i32_eq ox okI_0).mpr z)) p e s m args below meth c A H ls locs C hA w hS ho (ok_t h1) h2 hl) (fun q => kf ((i32_eq ox okI_0).mp q) p e s m args below meth c A H ls locs C hA w hS ho (ok_t h1) h2 hl)
theorem x_lc_ne {x y : Int} {off : Int} (tgt : Nat) (hd1 : decode X.2.1 pc = .ok (.lcmp, 1)) (hd : decode X.2.1 (pc + 1) = .ok (.ifCond .ne off, 3)) (ht : ((pc + 1 : Nat) : Int) + off = (tgt : Int)) (kt : x ≠ y → EX G X d mc ms Q tgt L st h kc ks) (kf : x = y → EX G X d mc ms Q (pc + 4) L st h kc ks) : EX G X d mc ms Q pc L (vJ y :: vJ x :: st) h kc ks := by
  intro p e s m args below meth c A H ls locs C hA w hS ho h1 h2 hl
  have oy := ok_J h1
  have ox := ok_J (ok_t h1)
  refine W.lcmp C.1 C.2.1 hd1 ?_
  exact lv_if_ne C.1 C.2.1 hd ht (fun q => kt (fun z => q ((lg_cmp_eq _ _).mpr ((i64_eq ox oy).mpr z))) p e s m args below meth c A H ls locs C hA w hS ho (ok_t (ok_t h1)) h2 hl) (fun q => kf ((i64_eq ox oy).mp ((lg_cmp_eq _ _).mp q)) p e s m args below meth c A H ls locs C hA w hS ho (ok_t (ok_t h1)) h2 hl)
theorem x_icmp_lt {x y : Int} {off : Int} (tgt : Nat) (hd : decode X.2.1 pc = .ok (.if_icmp .lt off, 3)) (ht : (pc : Int) + off = (tgt : Int)) (kt : x < y → EX G X d mc ms Q tgt L st h kc ks) (kf : y ≤ x → EX G X d mc ms Q (pc + 3) L st h kc ks) : EX G X d mc ms Q pc L (vI y :: vI x :: st) h kc ks := by
  intro p e s m args below meth c A H ls locs C hA w hS ho h1 h2 hl
  have oy := ok_I h1
  have ox := ok_I (ok_t h1)
  exact lv_icmp_lt C.1 C.2.1 hd ht (fun q => kt ((i32_lt ox oy).mp q) p e s m args below meth c A H ls locs C hA w hS ho (ok_t (ok_t h1)) h2 hl) (fun q => kf (Int.not_lt.mp fun z => q ((i32_lt ox oy).mpr z)) p e s m args below meth c A H ls locs C hA w hS ho (ok_t (ok_t h1)) h2 hl)
theorem x_if_lt {x : Int} {off : Int} (tgt : Nat) (hd : decode X.2.1 pc = .ok (.ifCond .lt off, 3)) (ht : (pc : Int) + off = (tgt : Int)) (kt : x < 0 → EX G X d mc ms Q tgt L st h kc ks) (kf : 0 ≤ x → EX G X d mc ms Q (pc + 3) L st h kc ks) : EX G X d mc ms Q pc L (vI x :: st) h kc ks := by
  intro p e s m args below meth c A H ls locs C hA w hS ho h1 h2 hl
  have ox := ok_I h1
  exact lv_if_lt C.1 C.2.1 hd ht (fun q => kt ((i32_lt ox okI_0).mp q) p e s m args below meth c A H ls locs C hA w hS ho (ok_t h1) h2 hl) (fun q => kf (Int.not_lt.mp fun z => q ((i32_lt ox okI_0).mpr z)) p e s m args below meth c A H ls locs C hA w hS ho (ok_t h1) h2 hl)
theorem x_lc_lt {x y : Int} {off : Int} (tgt : Nat) (hd1 : decode X.2.1 pc = .ok (.lcmp, 1)) (hd : decode X.2.1 (pc + 1) = .ok (.ifCond .lt off, 3)) (ht : ((pc + 1 : Nat) : Int) + off = (tgt : Int)) (kt : x < y → EX G X d mc ms Q tgt L st h kc ks) (kf : y ≤ x → EX G X d mc ms Q (pc + 4) L st h kc ks) : EX G X d mc ms Q pc L (vJ y :: vJ x :: st) h kc ks := by
  intro p e s m args below meth c A H ls locs C hA w hS ho h1 h2 hl
  have oy := ok_J h1
  have ox := ok_J (ok_t h1)
  refine W.lcmp C.1 C.2.1 hd1 ?_
  exact lv_if_lt C.1 C.2.1 hd ht (fun q => kt ((i64_lt ox oy).mp ((lg_cmp_lt _ _).mp q)) p e s m args below meth c A H ls locs C hA w hS ho (ok_t (ok_t h1)) h2 hl) (fun q => kf (Int.not_lt.mp fun z => q ((lg_cmp_lt _ _).mpr ((i64_lt ox oy).mpr z))) p e s m args below meth c A H ls locs C hA w hS ho (ok_t (ok_t h1)) h2 hl)
theorem x_icmp_ge {x y : Int} {off : Int} (tgt : Nat) (hd : decode X.2.1 pc = .ok (.if_icmp .ge off, 3)) (ht : (pc : Int) + off = (tgt : Int)) (kt : y ≤ x → EX G X d mc ms Q tgt L st h kc ks) (kf : x < y → EX G X d mc ms Q (pc + 3) L st h kc ks) : EX G X d mc ms Q pc L (vI y :: vI x :: st) h kc ks := by
  intro p e s m args below meth c A H ls locs C hA w hS ho h1 h2 hl
  have oy := ok_I h1
  have ox := ok_I (ok_t h1)
  exact lv_icmp_ge C.1 C.2.1 hd ht (fun q => kt ((i32_le oy ox).mp q) p e s m args below meth c A H ls locs C hA w hS ho (ok_t (ok_t h1)) h2 hl) (fun q => kf (Int.not_le.mp fun z => q ((i32_le oy ox).mpr z)) p e s m args below meth c A H ls locs C hA w hS ho (ok_t (ok_t h1)) h2 hl)
theorem x_if_ge {x : Int} {off : Int} (tgt : Nat) (hd : decode X.2.1 pc = .ok (.ifCond .ge off, 3)) (ht : (pc : Int) + off = (tgt : Int)) (kt : 0 ≤ x → EX G X d mc ms Q tgt L st h kc ks) (kf : x < 0 → EX G X d mc ms Q (pc + 3) L st h kc ks) : EX G X d mc ms Q pc L (vI x :: st) h kc ks := by
  intro p e s m args below meth c A H ls locs C hA w hS ho h1 h2 hl
  have ox := ok_I h1
  exact lv_if_ge C.1 C.2.1 hd ht (fun q => kt ((i32_le okI_0 ox).mp q) p e s m args below meth c A H ls locs C hA w hS ho (ok_t h1) h2 hl) (fun q => kf (Int.not_le.mp fun z => q ((i32_le okI_0 ox).mpr z)) p e s m args below meth c A H ls locs C hA w hS ho (ok_t h1) h2 hl)
theorem x_lc_ge {x y : Int} {off : Int} (tgt : Nat) (hd1 : decode X.2.1 pc = .ok (.lcmp, 1)) (hd : decode X.2.1 (pc + 1) = .ok (.ifCond .ge off, 3)) (ht : ((pc + 1 : Nat) : Int) + off = (tgt : Int)) (kt : y ≤ x → EX G X d mc ms Q tgt L st h kc ks) (kf : x < y → EX G X d mc ms Q (pc + 4) L st h kc ks) : EX G X d mc ms Q pc L (vJ y :: vJ x :: st) h kc ks := by
  intro p e s m args below meth c A H ls locs C hA w hS ho h1 h2 hl
  have oy := ok_J h1
  have ox := ok_J (ok_t h1)
  refine W.lcmp C.1 C.2.1 hd1 ?_
  exact lv_if_ge C.1 C.2.1 hd ht (fun q => kt ((i64_le oy ox).mp ((lg_cmp_ge _ _).mp q)) p e s m args below meth c A H ls locs C hA w hS ho (ok_t (ok_t h1)) h2 hl) (fun q => kf (Int.not_le.mp fun z => q ((lg_cmp_ge _ _).mpr ((i64_le oy ox).mpr z))) p e s m args below meth c A H ls locs C hA w hS ho (ok_t (ok_t h1)) h2 hl)
theorem x_icmp_gt {x y : Int} {off : Int} (tgt : Nat) (hd : decode X.2.1 pc = .ok (.if_icmp .gt off, 3)) (ht : (pc : Int) + off = (tgt : Int)) (kt : y < x → EX G X d mc ms Q tgt L st h kc ks) (kf : x ≤ y → EX G X d mc ms Q (pc + 3) L st h kc ks) : EX G X d mc ms Q pc L (vI y :: vI x :: st) h kc ks := by
  intro p e s m args below meth c A H ls locs C hA w hS ho h1 h2 hl
  have oy := ok_I h1
  have ox := ok_I (ok_t h1)
  exact lv_icmp_gt C.1 C.2.1 hd ht (fun q => kt ((i32_lt oy ox).mp q) p e s m args below meth c A H ls locs C hA w hS ho (ok_t (ok_t h1)) h2 hl) (fun q => kf (Int.not_lt.mp fun z => q ((i32_lt oy ox).mpr z)) p e s m args below meth c A H ls locs C hA w hS ho (ok_t (ok_t h1)) h2 hl)
theorem x_if_gt {x : Int} {off : Int} (tgt : Nat) (hd : decode X.2.1 pc = .ok (.ifCond .gt off, 3)) (ht : (pc : Int) + off = (tgt : Int)) (kt : 0 < x → EX G X d mc ms Q tgt L st h kc ks) (kf : x ≤ 0 → EX G X d mc ms Q (pc + 3) L st h kc ks) : EX G X d mc ms Q pc L (vI x :: st) h kc ks := by
  intro p e s m args below meth c A H ls locs C hA w hS ho h1 h2 hl
  have ox := ok_I h1
  exact lv_if_gt C.1 C.2.1 hd ht (fun q => kt ((i32_lt okI_0 ox).mp q) p e s m args below meth c A H ls locs C hA w hS ho (ok_t h1) h2 hl) (fun q => kf (Int.not_lt.mp fun z => q ((i32_lt okI_0 ox).mpr z)) p e s m args below meth c A H ls locs C hA w hS ho (ok_t h1) h2 hl)
theorem x_lc_gt {x y : Int} {off : Int} (tgt : Nat) (hd1 : decode X.2.1 pc = .ok (.lcmp, 1)) (hd : decode X.2.1 (pc + 1) = .ok (.ifCond .gt off, 3)) (ht : ((pc + 1 : Nat) : Int) + off = (tgt : Int)) (kt : y < x → EX G X d mc ms Q tgt L st h kc ks) (kf : x ≤ y → EX G X d mc ms Q (pc + 4) L st h kc ks) : EX G X d mc ms Q pc L (vJ y :: vJ x :: st) h kc ks := by
  intro p e s m args below meth c A H ls locs C hA w hS ho h1 h2 hl
  have oy := ok_J h1
  have ox := ok_J (ok_t h1)
  refine W.lcmp C.1 C.2.1 hd1 ?_
  exact lv_if_gt C.1 C.2.1 hd ht (fun q => kt ((i64_lt oy ox).mp ((lg_cmp_gt _ _).mp q)) p e s m args below meth c A H ls locs C hA w hS ho (ok_t (ok_t h1)) h2 hl) (fun q => kf (Int.not_lt.mp fun z => q ((lg_cmp_gt _ _).mpr ((i64_lt oy ox).mpr z))) p e s m args below meth c A H ls locs C hA w hS ho (ok_t (ok_t h1)) h2 hl)
theorem x_icmp_le {x y : Int} {off : Int} (tgt : Nat) (hd : decode X.2.1 pc = .ok (.if_icmp .le off, 3)) (ht : (pc : Int) + off = (tgt : Int)) (kt : x ≤ y → EX G X d mc ms Q tgt L st h kc ks) (kf : y < x → EX G X d mc ms Q (pc + 3) L st h kc ks) : EX G X d mc ms Q pc L (vI y :: vI x :: st) h kc ks := by
  intro p e s m args below meth c A H ls locs C hA w hS ho h1 h2 hl
  have oy := ok_I h1
  have ox := ok_I (ok_t h1)
  exact lv_icmp_le C.1 C.2.1 hd ht (fun q => kt ((i32_le ox oy).mp q) p e s m args below meth c A H ls locs C hA w hS ho (ok_t (ok_t h1)) h2 hl) (fun q => kf (Int.not_le.mp fun z => q ((i32_le ox oy).mpr z)) p e s m args below meth c A H ls locs C hA w hS ho (ok_t (ok_t h1)) h2 hl)
theorem x_if_le {x : Int} {off : Int} (tgt : Nat) (hd : decode X.2.1 pc = .ok (.ifCond .le off, 3)) (ht : (pc : Int) + off = (tgt : Int)) (kt : x ≤ 0 → EX G X d mc ms Q tgt L st h kc ks) (kf : 0 < x → EX G X d mc ms Q (pc + 3) L st h kc ks) : EX G X d mc ms Q pc L (vI x :: st) h kc ks := by
  intro p e s m args below meth c A H ls locs C hA w hS ho h1 h2 hl
  have ox := ok_I h1
  exact lv_if_le C.1 C.2.1 hd ht (fun q => kt ((i32_le ox okI_0).mp q) p e s m args below meth c A H ls locs C hA w hS ho (ok_t h1) h2 hl) (fun q => kf (Int.not_le.mp fun z => q ((i32_le ox okI_0).mpr z)) p e s m args below meth c A H ls locs C hA w hS ho (ok_t h1) h2 hl)
theorem x_lc_le {x y : Int} {off : Int} (tgt : Nat) (hd1 : decode X.2.1 pc = .ok (.lcmp, 1)) (hd : decode X.2.1 (pc + 1) = .ok (.ifCond .le off, 3)) (ht : ((pc + 1 : Nat) : Int) + off = (tgt : Int)) (kt : x ≤ y → EX G X d mc ms Q tgt L st h kc ks) (kf : y < x → EX G X d mc ms Q (pc + 4) L st h kc ks) : EX G X d mc ms Q pc L (vJ y :: vJ x :: st) h kc ks := by
  intro p e s m args below meth c A H ls locs C hA w hS ho h1 h2 hl
  have oy := ok_J h1
  have ox := ok_J (ok_t h1)
  refine W.lcmp C.1 C.2.1 hd1 ?_
  exact lv_if_le C.1 C.2.1 hd ht (fun q => kt ((i64_le ox oy).mp ((lg_cmp_le _ _).mp q)) p e s m args below meth c A H ls locs C hA w hS ho (ok_t (ok_t h1)) h2 hl) (fun q => kf (Int.not_le.mp fun z => q ((lg_cmp_le _ _).mpr ((i64_le ox oy).mpr z))) p e s m args below meth c A H ls locs C hA w hS ho (ok_t (ok_t h1)) h2 hl)
theorem x_ifnull {r : Option Nat} {off : Int} (tgt : Nat) (hd : decode X.2.1 pc = .ok (.ifnull off, 3)) (ht : (pc : Int) + off = (tgt : Int)) (kt : (r = none) → EX G X d mc ms Q tgt L st h kc ks) (kf : (∃ a, r = some a) → EX G X d mc ms Q (pc + 3) L st h kc ks) : EX G X d mc ms Q pc L (vR r :: st) h kc ks := by
  intro p e s m args below meth c A H ls locs C hA w hS ho h1 h2 hl
  cases r with
  | none => exact lv_ifnullN C.1 C.2.1 hd ht (kt rfl p e s m args below meth c A H ls locs C hA w hS ho (ok_t h1) h2 hl)
  | some a => exact lv_ifnull C.1 C.2.1 hd (kf ⟨a, rfl⟩ p e s m args below meth c A H ls locs C hA w hS ho (ok_t h1) h2 hl)
theorem x_ifnonnull {r : Option Nat} {off : Int} (tgt : Nat) (hd : decode X.2.1 pc = .ok (.ifnonnull off, 3)) (ht : (pc : Int) + off = (tgt : Int)) (kt : (∃ a, r = some a) → EX G X d mc ms Q tgt L st h kc ks) (kf : (r = none) → EX G X d mc ms Q (pc + 3) L st h kc ks) : EX G X d mc ms Q pc L (vR r :: st) h kc ks := by
  intro p e s m args below meth c A H ls locs C hA w hS ho h1 h2 hl
  cases r with
  | none => exact lv_ifnonnullN C.1 C.2.1 hd (kf rfl p e s m args below meth c A H ls locs C hA w hS ho (ok_t h1) h2 hl)
  | some a => exact lv_ifnonnull C.1 C.2.1 hd ht (kt ⟨a, rfl⟩ p e s m args below meth c A H ls locs C hA w hS ho (ok_t h1) h2 hl)
theorem x_tableOut {x dflt lo hi : Int} {offs : Array Int} {len : Nat} (tgt : Nat) (hd : decode X.2.1 pc = .ok (.tableswitch dflt lo hi offs, len)) (hx : x < lo ∨ hi < x) (ht : (pc : Int) + dflt = (tgt : Int)) (k : EX G X d mc ms Q tgt L st h kc ks) : EX G X d mc ms Q pc L (vI x :: st) h kc ks := by
  intro p e s m args below meth c A H ls locs C hA w hS ho h1 h2 hl
  refine lv_tableOut C.1 C.2.1 hd ?_ ht (k p e s m args below meth c A H ls locs C hA w hS ho (ok_t h1) h2 hl)
  rw [i32_to (ok_I h1)]; exact hx
theorem x_tableIn {x dflt lo hi off : Int} {offs : Array Int} {len : Nat} (tgt : Nat) (hd : decode X.2.1 pc = .ok (.tableswitch dflt lo hi offs, len)) (hx1 : lo ≤ x) (hx2 : x ≤ hi) (hoff : offs[(x - lo).toNat]? = some off) (ht : (pc : Int) + off = (tgt : Int)) (k : EX G X d mc ms Q tgt L st h kc ks) : EX G X d mc ms Q pc L (vI x :: st) h kc ks := by
  intro p e s m args below meth c A H ls locs C hA w hS ho h1 h2 hl
  refine lv_tableIn C.1 C.2.1 hd (off := off) ?_ ?_ ?_ ht (k p e s m args below meth c A H ls locs C hA w hS ho (ok_t h1) h2 hl)
  · rw [i32_to (ok_I h1)]; omega
  · rw [i32_to (ok_I h1)]; omega
  · rw [i32_to (ok_I h1)]; exact hoff
theorem x_end {s : State} {args : Array Value} {A : Nat → Prop} {H : Heap} {locs : List Loc} {r : Option aV} (w : aWd G A h H) (hS : va_S A s.heap H locs) (ho : okH h) (hr : ∀ v, r = some v → okV v) (hq : Q r h) : ∀ t : State, t.heap = H → s.WarmedH t.vm → aQ G A Q args s (.returned (r.map cv)) t := by
  intro t ht _
  exact ⟨⟨r, h, hq, rfl, by rw [ht]; exact w, ho, hr⟩, hS.F ht⟩
theorem x_ireturn {x : Int} (hd : decode X.2.1 pc = .ok (.ireturn, 1)) (hr : X.2.2.2 = some .int) (hc : kc ≤ mc) (hs : ks ≤ ms) (hq : Q (some (vI x)) h) : EX G X d mc ms Q pc L [vI x] h kc ks := by
  intro p e s m args below meth c A H ls locs C hA w hS ho h1 h2 hl
  refine W.widen hc hs ?_
  exact W.iret (v := Int32.ofInt x) C.1 C.2.1 (C.2.2.2.1.trans hr) (x_end (r := some (vI x)) w hS ho (fun v hv => by cases hv; exact ok_I h1) hq) hS.2.2 hd C.2.2.2.2.2.2.1
theorem x_zreturn {x : Int} (hd : decode X.2.1 pc = .ok (.ireturn, 1)) (hr : X.2.2.2 = some .boolean) (hx : x = 0 ∨ x = 1) (hc : kc ≤ mc) (hs : ks ≤ ms) (hq : Q (some (vI x)) h) : EX G X d mc ms Q pc L [vI x] h kc ks := by
  intro p e s m args below meth c A H ls locs C hA w hS ho h1 h2 hl
  refine W.widen hc hs ?_
  refine W.zret (v := Int32.ofInt x) C.1 C.2.1 (C.2.2.2.1.trans hr) ?_ (x_end (r := some (vI x)) w hS ho (fun v hv => by cases hv; exact ok_I h1) hq) hS.2.2 hd C.2.2.2.2.2.2.1
  rcases hx with rfl | rfl <;> decide +kernel
theorem x_lreturn {x : Int} (hd : decode X.2.1 pc = .ok (.lreturn, 1)) (hr : X.2.2.2 = some .long) (hc : kc ≤ mc) (hs : ks ≤ ms) (hq : Q (some (vJ x)) h) : EX G X d mc ms Q pc L [vJ x] h kc ks := by
  intro p e s m args below meth c A H ls locs C hA w hS ho h1 h2 hl
  refine W.widen hc hs ?_
  exact W.lret (v := Int64.ofInt x) C.1 C.2.1 (C.2.2.2.1.trans hr) (x_end (r := some (vJ x)) w hS ho (fun v hv => by cases hv; exact ok_J h1) hq) hS.2.2 hd C.2.2.2.2.2.2.1
theorem x_areturn {r : Option Nat} {ty : FieldType} (hd : decode X.2.1 pc = .ok (.areturn, 1)) (hr : X.2.2.2 = some ty) (hty : (∃ n, ty = .object n) ∨ ∃ t, ty = .array t) (hc : kc ≤ mc) (hs : ks ≤ ms) (hq : Q (some (vR r)) h) : EX G X d mc ms Q pc L [vR r] h kc ks := by
  intro p e s m args below meth c A H ls locs C hA w hS ho h1 h2 hl
  refine W.widen hc hs ?_
  exact W.aret (v := va_rf r) C.1 C.2.1 (C.2.2.2.1.trans hr) hty (va_rf_or r) (x_end (r := some (vR r)) w hS ho (fun v hv => by cases hv; trivial) hq) hS.2.2 hd C.2.2.2.2.2.2.1
theorem x_return (hd : decode X.2.1 pc = .ok (.return_, 1)) (hr : X.2.2.2 = none) (hc : kc ≤ mc) (hs : ks ≤ ms) (hq : Q none h) : EX G X d mc ms Q pc L [] h kc ks := by
  intro p e s m args below meth c A H ls locs C hA w hS ho h1 h2 hl
  refine W.widen hc hs ?_
  exact W.vret C.1 C.2.1 (C.2.2.2.1.trans hr) (x_end (r := none) w hS ho (fun v hv => by cases hv) hq) hS.2.2 hd C.2.2.2.2.2.2.1
end XR
end
section
/-! ===== the rows of EX on cells: arrays, fields, new objects ===== -/
section XH
variable {G : aG} {X : aM} {d mc ms : Nat} {Q : Option aV → aH → Prop} {pc : Nat} {L L' : List (Nat × aV)} {st : List aV} {h : aH} {kc ks : Nat}
theorem x_iaload {a n : Nat} {g : Nat → Int} {i : Int} (hd : decode X.2.1 pc = .ok (.iaload, 1)) (ha : h a = some (eI n g)) (hi0 : 0 ≤ i) (hin : i < n) (k : EX G X d mc ms Q (pc + 1) L (vI (g i.toNat) :: st) h kc ks) : EX G X d mc ms Q pc L (vI i :: vA a :: st) h kc ks := by
  intro p e s m args below meth c A H ls locs C hA w hS ho h1 h2 hl
  obtain ⟨Ls, q, hP, hD, hL, hm, hk⟩ := w.get ha
  have oi := ok_I h1
  refine va_iald C.1 C.2.1 C.2.2.2.2.2.2.2.2.1 hP q 0 hk rfl (i32_in oi hi0 hin) hd ?_
  rw [i32_nat oi hi0]
  exact k p e s m args below meth c A H ls locs C hA w hS ho (ok_c (ho a _ ha _) (ok_t (ok_t h1))) h2 hl
theorem x_laload {a n : Nat} {g : Nat → Int} {i : Int} (hd : decode X.2.1 pc = .ok (.laload, 1)) (ha : h a = some (eJ n g)) (hi0 : 0 ≤ i) (hin : i < n) (k : EX G X d mc ms Q (pc + 1) L (vJ (g i.toNat) :: st) h kc ks) : EX G X d mc ms Q pc L (vI i :: vA a :: st) h kc ks := by
  intro p e s m args below meth c A H ls locs C hA w hS ho h1 h2 hl
  obtain ⟨Ls, q, hP, hD, hL, hm, hk⟩ := w.get ha
  have oi := ok_I h1
  refine va_lald C.1 C.2.1 C.2.2.2.2.2.2.2.2.1 hP q 1 hk rfl (i32_in oi hi0 hin) hd ?_
  rw [i32_nat oi hi0]
  exact k p e s m args below meth c A H ls locs C hA w hS ho (ok_c (ho a _ ha _) (ok_t (ok_t h1))) h2 hl
theorem x_aaload {a n : Nat} {r : Nat → Option Nat} {i : Int} (hd : decode X.2.1 pc = .ok (.aaload, 1)) (ha : h a = some (eR n r)) (hi0 : 0 ≤ i) (hin : i < n) (k : EX G X d mc ms Q (pc + 1) L (vR (r i.toNat) :: st) h kc ks) : EX G X d mc ms Q pc L (vI i :: vA a :: st) h kc ks := by
  intro p e s m args below meth c A H ls locs C hA w hS ho h1 h2 hl
  obtain ⟨Ls, q, hP, hD, hL, hm, hk⟩ := w.get ha
  have oi := ok_I h1
  refine va_aldq C.1 C.2.1 C.2.2.2.2.2.2.2.2.1 hP q 2 hk rfl (i32_in oi hi0 hin) hd ?_
  rw [i32_nat oi hi0]
  exact k p e s m args below meth c A H ls locs C hA w hS ho (ok_c trivial (ok_t (ok_t h1))) h2 hl
theorem updL_cv (g : Nat → Int) (j : Nat) (x : Int) : vp_updL (fun i => Int64.ofInt (g i)) j (Int64.ofInt x) = fun i => Int64.ofInt (va_up g j x i) := by
  funext i
  simp only [vp_updL, va_up]
  by_cases hi : i = j <;> simp [hi]
theorem upd_cv (g : Nat → Int) (j : Nat) (x : Int) : upd (fun i => Int32.ofInt (g i)) j (Int32.ofInt x) = fun i => Int32.ofInt (va_up g j x i) := by
  funext i
  simp only [upd, va_up]
  by_cases hi : i = j <;> simp [hi]
theorem okup {P : Int → Prop} {g : Nat → Int} {j : Nat} {x : Int} (hg : ∀ i, P (g i)) (hx : P x) : ∀ i, P (va_up g j x i) := by
  intro i
  simp only [va_up]
  by_cases hi : i = j <;> simp [hi, hx, hg]
theorem x_lastore {a n : Nat} {g : Nat → Int} {i x : Int} (hd : decode X.2.1 pc = .ok (.lastore, 1)) (ha : h a = some (eJ n g)) (hi0 : 0 ≤ i) (hin : i < n) (k : EX G X d mc ms Q (pc + 1) L st (hset h a (eJ n (va_up g i.toNat x))) kc ks) : EX G X d mc ms Q pc L (vJ x :: vI i :: vA a :: st) h kc ks := by
  intro p e s m args below meth c A H ls locs C hA w hS ho h1 h2 hl
  obtain ⟨Ls, q, hP, hD, hL, hm, hk⟩ := w.get ha
  have oi := ok_I (ok_t h1)
  refine va_last (A := A) C.1 C.2.1 C.2.2.2.2.2.2.2.2.1 hP hD hS q 1 hk rfl (i32_in oi hi0 hin) hd fun H1 locs1 hP1 hD1 hS1 => ?_
  rw [i32_nat oi hi0, updL_cv] at hP1 hD1
  exact k p e s m args below meth c A H1 ls locs1 C hA (aWd.upd ha hD hL hm hk (e := eJ n (va_up g i.toNat x)) hP1 hD1) hS1 (ho.set (okup (P := okJ) (ho a _ ha) (ok_J h1))) (ok_t (ok_t (ok_t h1))) h2 hl
theorem x_iastore {a n : Nat} {g : Nat → Int} {i x : Int} (hd : decode X.2.1 pc = .ok (.iastore, 1)) (ha : h a = some (eI n g)) (hi0 : 0 ≤ i) (hin : i < n) (k : EX G X d mc ms Q (pc + 1) L st (hset h a (eI n (va_up g i.toNat x))) kc ks) : EX G X d mc ms Q pc L (vI x :: vI i :: vA a :: st) h kc ks := by
  intro p e s m args below meth c A H ls locs C hA w hS ho h1 h2 hl
  obtain ⟨Ls, q, hP, hD, hL, hm, hk⟩ := w.get ha
  have oi := ok_I (ok_t h1)
  refine va_iast (A := A) C.1 C.2.1 C.2.2.2.2.2.2.2.2.1 hP hD hS q 0 hk rfl (i32_in oi hi0 hin) hd fun H1 locs1 hP1 hD1 hS1 => ?_
  rw [i32_nat oi hi0, upd_cv] at hP1 hD1
  exact k p e s m args below meth c A H1 ls locs1 C hA (aWd.upd ha hD hL hm hk (e := eI n (va_up g i.toNat x)) hP1 hD1) hS1 (ho.set (okup (P := okI) (ho a _ ha) (ok_I h1))) (ok_t (ok_t (ok_t h1))) h2 hl
theorem x_aastoreN {a n : Nat} {r : Nat → Option Nat} {i : Int} (hd : decode X.2.1 pc = .ok (.aastore, 1)) (ha : h a = some (eR n r)) (hi0 : 0 ≤ i) (hin : i < n) (k : EX G X d mc ms Q (pc + 1) L st (hset h a (eR n (va_up r i.toNat none))) kc ks) : EX G X d mc ms Q pc L (vN :: vI i :: vA a :: st) h kc ks := by
  intro p e s m args below meth c A H ls locs C hA w hS ho h1 h2 hl
  obtain ⟨Ls, q, hP, hD, hL, hm, hk⟩ := w.get ha
  have oi := ok_I (ok_t h1)
  refine va_astqN (A := A) C.1 C.2.1 C.2.2.2.2.2.2.2.2.1 hP hD hS q 2 hk rfl (i32_in oi hi0 hin) hd fun H1 locs1 hP1 hD1 hS1 => ?_
  rw [i32_nat oi hi0] at hP1 hD1
  exact k p e s m args below meth c A H1 ls locs1 C hA (aWd.upd ha hD hL hm hk (e := eR n (va_up r i.toNat none)) hP1 hD1) hS1 (ho.set trivial) (ok_t (ok_t (ok_t h1))) h2 hl
/-- a curve of a kind comes into an array of curves -/
theorem x_aastore {a n b ci : Nat} {fs : List aV} {r : Nat → Option Nat} {i : Int} (hd : decode X.2.1 pc = .ok (.aastore, 1)) (ha : h a = some (eR n r)) (hb : h b = some (eO ci fs)) (hci : ci ∈ [0, 1, 2, 4, 6]) (hi0 : 0 ≤ i) (hin : i < n) (k : EX G X d mc ms Q (pc + 1) L st (hset h a (eR n (va_up r i.toNat (some b)))) kc ks) : EX G X d mc ms Q pc L (vA b :: vI i :: vA a :: st) h kc ks := by
  intro p e s m args below meth c A H ls locs C hA w hS ho h1 h2 hl
  obtain ⟨Ls, q, hP, hD, hL, hm, hk⟩ := w.get ha
  have oi := ok_I (ok_t h1)
  have hbm : b ∈ Ls := (hL b).mpr (by rw [hb]; rfl)
  obtain ⟨qb, hkb⟩ := va_pl_get (X := []) (f := ceh G h) hbm
  rw [List.nil_append, ceh_at G hb] at hkb
  have fin : ∀ (H1 : Heap) (locs1 : List Loc), va_P (gD G) vwCl ((va_pl Ls (ceh G h)).set q (a, .inl (G.2.2.2.2.2, n, .inr (.inr (.inr (.inr (va_up r (Int32.ofInt i).toNatClampNeg (some b)))))))) H1 → va_D A ((va_pl Ls (ceh G h)).set q (a, .inl (G.2.2.2.2.2, n, .inr (.inr (.inr (.inr (va_up r (Int32.ofInt i).toNatClampNeg (some b)))))))) → va_S A s.heap H1 locs1 → W p G.1 e (aRm d mc ms) s m args below meth c H1 locs1 kc ks (MQ below (aQ G A Q) args s mc ms A) (F0 m (pc + 1) ls (st.map cv)) := by
    intro H1 locs1 hP1 hD1 hS1
    rw [i32_nat oi hi0] at hP1 hD1
    exact k p e s m args below meth c A H1 ls locs1 C hA (aWd.upd ha hD hL hm hk (e := eR n (va_up r i.toNat (some b))) hP1 hD1) hS1 (ho.set trivial) (ok_t (ok_t (ok_t h1))) h2 hl
  have hn := C.2.2.2.2.2.2.2.2.2.2
  simp only [List.mem_cons, List.not_mem_nil, or_false] at hci
  rcases hci with rfl | rfl | rfl | rfl | rfl
  · exact va_astqO (A := A) (E := RX1) C.1 C.2.1 C.2.2.2.2.2.2.2.2.1 hP hD hS q 2 qb 0 hk rfl (hn (.castable RX0 RX1) (by decide +kernel)) hkb rfl (i32_in oi hi0 hin) hd fin
  · exact va_astq (A := A) C.1 C.2.1 C.2.2.2.2.2.2.2.2.1 hP hD hS q 2 qb 1 hk rfl hkb rfl (i32_in oi hi0 hin) hd fin
  · exact va_astqO (A := A) (E := RX1) C.1 C.2.1 C.2.2.2.2.2.2.2.2.1 hP hD hS q 2 qb 2 hk rfl (hn (.castable RX2 RX1) (by decide +kernel)) hkb rfl (i32_in oi hi0 hin) hd fin
  · exact va_astqO (A := A) (E := RX1) C.1 C.2.1 C.2.2.2.2.2.2.2.2.1 hP hD hS q 2 qb 4 hk rfl (hn (.castable RX5 RX1) (by decide +kernel)) hkb rfl (i32_in oi hi0 hin) hd fin
  · exact va_astqO (A := A) (E := RX1) C.1 C.2.1 C.2.2.2.2.2.2.2.2.1 hP hD hS q 2 qb 6 hk rfl (hn (.castable RX7 RX1) (by decide +kernel)) hkb rfl (i32_in oi hi0 hin) hd fin
theorem i32_ofNat (n : Nat) : Int32.ofNat n = Int32.ofInt (n : Int) := (Int32.ofInt_eq_ofNat (n := n)).symm
theorem x_alenJ {a n : Nat} {g : Nat → Int} (hd : decode X.2.1 pc = .ok (.arraylength, 1)) (ha : h a = some (eJ n g)) (hn : n ≤ 2147483647) (k : EX G X d mc ms Q (pc + 1) L (vI (n : Int) :: st) h kc ks) : EX G X d mc ms Q pc L (vA a :: st) h kc ks := by
  intro p e s m args below meth c A H ls locs C hA w hS ho h1 h2 hl
  obtain ⟨Ls, q, hP, hD, hL, hm, hk⟩ := w.get ha
  exact va_alen C.1 C.2.1 C.2.2.2.2.2.2.2.2.1 hP q 1 hk rfl (i32_ofNat n) hd (k p e s m args below meth c A H ls locs C hA w hS ho (ok_c (show okI _ by unfold okI; omega) (ok_t h1)) h2 hl)
theorem x_alenI {a n : Nat} {g : Nat → Int} (hd : decode X.2.1 pc = .ok (.arraylength, 1)) (ha : h a = some (eI n g)) (hn : n ≤ 2147483647) (k : EX G X d mc ms Q (pc + 1) L (vI (n : Int) :: st) h kc ks) : EX G X d mc ms Q pc L (vA a :: st) h kc ks := by
  intro p e s m args below meth c A H ls locs C hA w hS ho h1 h2 hl
  obtain ⟨Ls, q, hP, hD, hL, hm, hk⟩ := w.get ha
  exact va_alen C.1 C.2.1 C.2.2.2.2.2.2.2.2.1 hP q 0 hk rfl (i32_ofNat n) hd (k p e s m args below meth c A H ls locs C hA w hS ho (ok_c (show okI _ by unfold okI; omega) (ok_t h1)) h2 hl)
theorem x_alenR {a n : Nat} {r : Nat → Option Nat} (hd : decode X.2.1 pc = .ok (.arraylength, 1)) (ha : h a = some (eR n r)) (hn : n ≤ 2147483647) (k : EX G X d mc ms Q (pc + 1) L (vI (n : Int) :: st) h kc ks) : EX G X d mc ms Q pc L (vA a :: st) h kc ks := by
  intro p e s m args below meth c A H ls locs C hA w hS ho h1 h2 hl
  obtain ⟨Ls, q, hP, hD, hL, hm, hk⟩ := w.get ha
  exact va_alen C.1 C.2.1 C.2.2.2.2.2.2.2.2.1 hP q 2 hk rfl (i32_ofNat n) hd (k p e s m args below meth c A H ls locs C hA w hS ho (ok_c (show okI _ by unfold okI; omega) (ok_t h1)) h2 hl)
-- fields: what the tables say of a field's reference in a class's code, for a receiver of a class
def aFld (own : String) (idx ci k : Nat) : Prop := ∃ (C ref : String) (T : u_T) (N : Nat), vwCl[ci]? = some (C, T, N) ∧ k < N ∧ (∀ w ∈ u_ws C T N, w ∈ lw_ok) ∧ Cond.fieldLink own idx ref (T k).2.1 (T k).2.2.1 ∈ lw_ok ∧ (ref = (T k).1 ∨ Cond.sameField ref (T k).1 (T k).2.1 (T k).2.2.1 ∈ lw_ok)
theorem aFld.same {s : State} {args : Array Value} {ref : String} {T : u_T} {k : Nat} (hts : ∀ w ∈ lw_ok, w.before args s = true) (h : ref = (T k).1 ∨ Cond.sameField ref (T k).1 (T k).2.1 (T k).2.2.1 ∈ lw_ok) : ∀ x, s.fieldFound? (T k).1 (T k).2.1 (T k).2.2.1 = some x → s.fieldFound? ref (T k).2.1 (T k).2.2.1 = some x := by
  intro x hx
  rcases h with rfl | h
  · exact hx
  · exact u_same (hts _ h) x hx
theorem map_get {fs : List aV} {k : Nat} {v : aV} (h : fs[k]? = some v) : (fs.map cv)[k]? = some (cv v) := by rw [List.getElem?_map, h]; rfl
theorem x_get {a ci : Nat} {fs : List aV} {v : aV} {idx : Nat} (f : Nat) (hd : decode X.2.1 pc = .ok (.getfield idx, 3)) (hF : aFld X.1.cls idx ci f) (ha : h a = some (eO ci fs)) (hv : fs[f]? = some v) (k : EX G X d mc ms Q (pc + 3) L (v :: st) h kc ks) : EX G X d mc ms Q pc L (vA a :: st) h kc ks := by
  intro p e s m args below meth c A H ls locs C hA w hS ho h1 h2 hl
  obtain ⟨Ls, q, hP, hD, hL, hm, hk⟩ := w.get ha
  obtain ⟨K, ref, T, N, hc, hkN, hin, hlk, hsm⟩ := hF
  have hts := C.2.2.2.2.2.1
  exact va_get C.1 C.2.1 hts hin C.2.2.2.2.1 C.2.2.2.2.2.2.2.2.1 hP q hk hc f hkN (hts _ hlk) (aFld.same hts hsm) (map_get hv) hd (k p e s m args below meth c A H ls locs C hA w hS ho (ok_c (ho a _ ha v (List.mem_of_getElem? hv)) (ok_t h1)) h2 hl)
/-- a private field of a nest mate -/
def aFldN (own : String) (idx ci k : Nat) : Prop := ∃ (C ref host : String) (T : u_T) (N : Nat), vwCl[ci]? = some (C, T, N) ∧ k < N ∧ (∀ w ∈ u_ws C T N, w ∈ lw_ok) ∧ Cond.fieldLinkNest own idx ref (T k).2.1 (T k).2.2.1 host ∈ aNW ∧ ref = (T k).1
theorem x_getN {a ci : Nat} {fs : List aV} {v : aV} {idx : Nat} (f : Nat) (hd : decode X.2.1 pc = .ok (.getfield idx, 3)) (hF : aFldN X.1.cls idx ci f) (ha : h a = some (eO ci fs)) (hv : fs[f]? = some v) (k : EX G X d mc ms Q (pc + 3) L (v :: st) h kc ks) : EX G X d mc ms Q pc L (vA a :: st) h kc ks := by
  intro p e s m args below meth c A H ls locs C hA w hS ho h1 h2 hl
  obtain ⟨Ls, q, hP, hD, hL, hm, hk⟩ := w.get ha
  obtain ⟨K, ref, host, T, N, hc, hkN, hin, hlk, hsm⟩ := hF
  have hts := C.2.2.2.2.2.1
  have hn := va_Nw.use (A := args) (aNW_tables _ hlk) (C.2.2.2.2.2.2.2.2.2.2 _ hlk)
  exact va_getN C.1 C.2.1 hts hin C.2.2.2.2.1 C.2.2.2.2.2.2.2.2.1 hP q hk hc f hkN hn (aFld.same hts (Or.inl hsm)) (map_get hv) hd (k p e s m args below meth c A H ls locs C hA w hS ho (ok_c (ho a _ ha v (List.mem_of_getElem? hv)) (ok_t h1)) h2 hl)
-- writing
def aPut (own : String) (idx ci k : Nat) (ty : FieldType) (fin : Bool) : Prop := ∃ (C ref : String) (T : u_T) (N : Nat) (ty0 : Nat → FieldType), vwCl[ci]? = some (C, T, N) ∧ k < N ∧ (∀ w ∈ u_ws C T N, w ∈ lw_ok) ∧ Cond.fieldLink own idx ref (T k).2.1 (T k).2.2.1 ∈ lw_ok ∧ ref = (T k).1 ∧
  (∀ k, k < N → parseFieldDescriptor (T k).2.2.1 = some (ty0 k)) ∧ (∀ a, a < N → ∀ b, b < N → a ≠ b → (T a).2.1 ≠ (T b).2.1) ∧ parseFieldDescriptor (T k).2.2.1 = some ty ∧ (T k).2.2.2 = fin ∧ (fin = true → (T k).1 = own)
theorem map_set {fs : List aV} (k : Nat) (v : aV) : (fs.map cv).set k (cv v) = (fs.set k v).map cv := List.map_set.symm
theorem okset {fs : List aV} {k : Nat} {v : aV} (h : ∀ u ∈ fs, okV u) (hv : okV v) : ∀ u ∈ fs.set k v, okV u := by
  intro u hu
  rcases List.mem_or_eq_of_mem_set hu with h1 | rfl
  · exact h u h1
  · exact hv
theorem x_put {a ci : Nat} {fs : List aV} {v : aV} {idx : Nat} {ty : FieldType} (f : Nat) (hd : decode X.2.1 pc = .ok (.putfield idx, 3)) (hF : aPut X.1.cls idx ci f ty false) (ha : h a = some (eO ci fs)) (hn : narrow ty (cv v) = cv v) (hfit : fits ty (cv v) = true) (hlen : f < fs.length) (k : EX G X d mc ms Q (pc + 3) L st (hset h a (eO ci (fs.set f v))) kc ks) : EX G X d mc ms Q pc L (v :: vA a :: st) h kc ks := by
  intro p e s m args below meth c A H ls locs C hA w hS ho h1 h2 hl
  obtain ⟨Ls, q, hP, hD, hL, hm, hk⟩ := w.get ha
  obtain ⟨K, ref, T, N, ty0, hc, hkN, hin, hlk, hsm, hty, hnm, hpd, hfin, -⟩ := hF
  have hts := C.2.2.2.2.2.1
  refine va_put (A := A) C.1 C.2.1 hts hin ty0 hty hnm C.2.2.2.2.1 C.2.2.2.2.2.2.2.2.1 hP hD hS q hk hc f hkN (hts _ hlk) (aFld.same hts (Or.inl hsm)) hfin hpd hn hfit (by rw [List.length_map]; exact hlen) hd fun H1 locs1 hP1 hD1 hS1 => ?_
  rw [map_set] at hP1 hD1
  exact k p e s m args below meth c A H1 ls locs1 C hA (aWd.upd ha hD hL hm hk (e := eO ci (fs.set f v)) hP1 hD1) hS1 (ho.set (okset (ho a _ ha) (ok_h h1))) (ok_t (ok_t h1)) h2 hl
theorem x_putF {a ci : Nat} {fs : List aV} {v : aV} {idx : Nat} {ty : FieldType} (f : Nat) (hd : decode X.2.1 pc = .ok (.putfield idx, 3)) (hinit : X.1.name = "<init>") (hF : aPut X.1.cls idx ci f ty true) (ha : h a = some (eO ci fs)) (hn : narrow ty (cv v) = cv v) (hfit : fits ty (cv v) = true) (hlen : f < fs.length) (k : EX G X d mc ms Q (pc + 3) L st (hset h a (eO ci (fs.set f v))) kc ks) : EX G X d mc ms Q pc L (v :: vA a :: st) h kc ks := by
  intro p e s m args below meth c A H ls locs C hA w hS ho h1 h2 hl
  obtain ⟨Ls, q, hP, hD, hL, hm, hk⟩ := w.get ha
  obtain ⟨K, ref, T, N, ty0, hc, hkN, hin, hlk, hsm, hty, hnm, hpd, hfin, hdecl⟩ := hF
  have hts := C.2.2.2.2.2.1
  refine va_putF (A := A) C.1 C.2.1 hts hin ty0 hty hnm C.2.2.2.2.1 C.2.2.2.2.2.2.2.2.1 hP hD hS q hk hc f hkN (hts _ hlk) (aFld.same hts (Or.inl hsm)) hfin (C.2.2.2.2.2.2.2.1 hinit) (hdecl rfl) hpd hn hfit (by rw [List.length_map]; exact hlen) hd fun H1 locs1 hP1 hD1 hS1 => ?_
  rw [map_set] at hP1 hD1
  exact k p e s m args below meth c A H1 ls locs1 C hA (aWd.upd ha hD hL hm hk (e := eO ci (fs.set f v)) hP1 hD1) hS1 (ho.set (okset (ho a _ ha) (ok_h h1))) (ok_t (ok_t h1)) h2 hl
/-- a private field of a nest mate -/
def aPutN (own : String) (idx ci k : Nat) (ty : FieldType) : Prop := ∃ (C ref host : String) (T : u_T) (N : Nat) (ty0 : Nat → FieldType), vwCl[ci]? = some (C, T, N) ∧ k < N ∧ (∀ w ∈ u_ws C T N, w ∈ lw_ok) ∧ Cond.fieldLinkNest own idx ref (T k).2.1 (T k).2.2.1 host ∈ aNW ∧ ref = (T k).1 ∧
  (∀ k, k < N → parseFieldDescriptor (T k).2.2.1 = some (ty0 k)) ∧ (∀ a, a < N → ∀ b, b < N → a ≠ b → (T a).2.1 ≠ (T b).2.1) ∧ parseFieldDescriptor (T k).2.2.1 = some ty ∧ (T k).2.2.2 = false
theorem x_putN {a ci : Nat} {fs : List aV} {v : aV} {idx : Nat} {ty : FieldType} (f : Nat) (hd : decode X.2.1 pc = .ok (.putfield idx, 3)) (hF : aPutN X.1.cls idx ci f ty) (ha : h a = some (eO ci fs)) (hn : narrow ty (cv v) = cv v) (hfit : fits ty (cv v) = true) (hlen : f < fs.length) (k : EX G X d mc ms Q (pc + 3) L st (hset h a (eO ci (fs.set f v))) kc ks) : EX G X d mc ms Q pc L (v :: vA a :: st) h kc ks := by
  intro p e s m args below meth c A H ls locs C hA w hS ho h1 h2 hl
  obtain ⟨Ls, q, hP, hD, hL, hm, hk⟩ := w.get ha
  obtain ⟨K, ref, host, T, N, ty0, hc, hkN, hin, hlk, hsm, hty, hnm, hpd, hfin⟩ := hF
  have hts := C.2.2.2.2.2.1
  have hn2 := va_Nw.use (A := args) (aNW_tables _ hlk) (C.2.2.2.2.2.2.2.2.2.2 _ hlk)
  refine va_putN (A := A) C.1 C.2.1 hts hin ty0 hty hnm C.2.2.2.2.1 C.2.2.2.2.2.2.2.2.1 hP hD hS q hk hc f hkN hn2 (aFld.same hts (Or.inl hsm)) hfin hpd hn hfit (by rw [List.length_map]; exact hlen) hd fun H1 locs1 hP1 hD1 hS1 => ?_
  rw [map_set] at hP1 hD1
  exact k p e s m args below meth c A H1 ls locs1 C hA (aWd.upd ha hD hL hm hk (e := eO ci (fs.set f v)) hP1 hD1) hS1 (ho.set (okset (ho a _ ha) (ok_h h1))) (ok_t (ok_t h1)) h2 hl
-- new cells
def aNew (own : String) (idx ci : Nat) (fs : List aV) : Prop := ∃ (C : String) (T : u_T) (N : Nat) (ty : Nat → FieldType), vwCl[ci]? = some (C, T, N) ∧ N = fs.length ∧ (∀ w ∈ u_ws C T N, w ∈ lw_ok) ∧ (∀ k, k < N → parseFieldDescriptor (T k).2.2.1 = some (ty k)) ∧ Cond.classLink own idx C ∈ lw_ok ∧ Cond.instantiable C N ∈ lw_ok ∧ Cond.initialized C ∈ lw_ok ∧ (∀ j, j < N → defaultValue (ty j) = vp_V (fs.map cv) j) ∧ ∀ v ∈ fs, okV v
theorem aWd.kept {G : aG} {A : Nat → Prop} {h : aH} {H H1 : Heap} (w : aWd G A h H) (hq : ∀ q : Nat, q < H.size → H1[q]? = H[q]?) {e : aE} {ho : h H.size = none} (he : va_at (gD G) vwCl (H.size, ce G e) H1) (hA : A H.size) : aWd G A (hset h H.size e) H1 := by
  obtain ⟨Ls, hP, hD, hL⟩ := w
  refine aWd.push (Ls := Ls) hL ho ?_ ?_
  · refine va_P.app (hP.kept fun k q hk => hq _ (hP k q hk).lt) ?_
    intro k q hk
    have hz : k < 1 := (List.getElem?_eq_some_iff.mp hk).1
    rw [show k = 0 by omega] at hk
    cases hk
    exact he
  · exact hD.push hP rfl hA
theorem aWd.fresh {G : aG} {A : Nat → Prop} {h : aH} {H : Heap} (w : aWd G A h H) : h H.size = none := by
  cases hh : h H.size with
  | none => rfl
  | some e =>
    have := w.lt (a := H.size) (by rw [hh]; rfl)
    omega
theorem x_new {ci : Nat} {fs : List aV} {idx : Nat} (hd : decode X.2.1 pc = .ok (.new idx, 3)) (hF : aNew X.1.cls idx ci fs) (hc : kc + 1 ≤ mc) (hs : ks + fs.length ≤ ms) (k : ∀ q : Nat, h q = none → (∀ b : Nat, (h b).isSome = true → b < q) → EX G X d mc ms Q (pc + 3) L (vA q :: st) (hset h q (eO ci fs)) (kc + 1) (ks + fs.length)) : EX G X d mc ms Q pc L st h kc ks := by
  intro p e s m args below meth c A H ls locs C hA w hS ho h1 h2 hl
  obtain ⟨K, T, N, ty, hcl, hN, hin, hty, hlk, hins, hini, hdf, hok⟩ := hF
  have hts := C.2.2.2.2.2.1
  have hKn := C.2.2.2.2.2.2.2.2.1.1 ci _ hcl
  refine W.newcK C.1 C.2.1 C.2.2.2.2.1 (hts _ hlk) (hts _ hins) (hts _ hini) rfl hd hc (by rw [hN]; exact hs) hKn.2.1 rfl fun H1 kC hkC e1 z1 o1 => ?_
  have hs1 : va_S A s.heap H1 locs := ⟨Nat.le_trans hS.1 (by omega), fun x q1 q2 => (o1 x (Nat.lt_of_lt_of_le q1 hS.1)).trans (hS.2.1 x q1 q2), hS.2.2⟩
  have hw1 : aWd G A (hset h H.size (eO ci fs)) H1 := w.kept (ho := w.fresh) o1 ⟨_, hcl, (u_born ty hts hin hKn hkC e1 hty).to hdf⟩ (hA _ hS.1)
  rw [hN]
  exact k H.size w.fresh (fun b hb => w.lt hb) p e s m args below meth c A H1 ls locs C hA hw1 hs1 (ho.set hok) (ok_c trivial h1) h2 hl
theorem x_newJ {n : Int} (hd : decode X.2.1 pc = .ok (.newarray .long, 2)) (hn0 : 0 ≤ n) (hn : n ≤ 100000) (hc : kc + 1 ≤ mc) (hs : ks + n.toNat ≤ ms) (k : ∀ q : Nat, h q = none → (∀ b : Nat, (h b).isSome = true → b < q) → EX G X d mc ms Q (pc + 2) L (vA q :: st) (hset h q (eJ n.toNat (fun _ => 0))) (kc + 1) (ks + n.toNat)) : EX G X d mc ms Q pc L (vI n :: st) h kc ks := by
  intro p e s m args below meth c A H ls locs C hA w hS ho h1 h2 hl
  have hts := C.2.2.2.2.2.1
  have oi := ok_I h1
  have ha : Cond.arrayClass .long ∈ lw_ok := by decide +kernel
  refine va_newaK C.1 C.2.1 (atype := .long) (hts _ ha) rfl hd rfl ?_ (i32_nat oi hn0) ?_ hc hs rfl fun H1 cA e1 z1 o1 hAr hNm => ?_
  · intro q
    have := (i32_lt oi okI_0).mp q
    omega
  · show n.toNat * 8 ≤ 536870912
    omega
  have hcA : cA = G.2.2.2.2.1 := by
    have := (C.2.2.2.2.2.2.2.2.1.2 1 _ rfl).2
    exact Option.some.inj (hNm.symm.trans this)
  subst hcA
  have hs1 : va_S A s.heap H1 locs := ⟨Nat.le_trans hS.1 (by omega), fun x q1 q2 => (o1 x (Nat.lt_of_lt_of_le q1 hS.1)).trans (hS.2.1 x q1 q2), hS.2.2⟩
  have hw1 : aWd G A (hset h H.size (eJ n.toNat (fun _ => 0))) H1 := w.kept (ho := w.fresh) o1 e1 (hA _ hS.1)
  exact k H.size w.fresh (fun b hb => w.lt hb) p e s m args below meth c A H1 ls locs C hA hw1 hs1 (ho.set (fun _ => okJ_0)) (ok_c trivial (ok_t h1)) h2 hl
theorem x_newI {n : Int} (hd : decode X.2.1 pc = .ok (.newarray .int, 2)) (hn0 : 0 ≤ n) (hn : n ≤ 100000) (hc : kc + 1 ≤ mc) (hs : ks + n.toNat ≤ ms) (k : ∀ q : Nat, h q = none → (∀ b : Nat, (h b).isSome = true → b < q) → EX G X d mc ms Q (pc + 2) L (vA q :: st) (hset h q (eI n.toNat (fun _ => 0))) (kc + 1) (ks + n.toNat)) : EX G X d mc ms Q pc L (vI n :: st) h kc ks := by
  intro p e s m args below meth c A H ls locs C hA w hS ho h1 h2 hl
  have hts := C.2.2.2.2.2.1
  have oi := ok_I h1
  have ha : Cond.arrayClass .int ∈ lw_ok := by decide +kernel
  refine va_newaK C.1 C.2.1 (atype := .int) (hts _ ha) rfl hd rfl ?_ (i32_nat oi hn0) ?_ hc hs rfl fun H1 cA e1 z1 o1 hAr hNm => ?_
  · intro q
    have := (i32_lt oi okI_0).mp q
    omega
  · show n.toNat * 4 ≤ 536870912
    omega
  have hcA : cA = G.2.2.2.1 := by
    have := (C.2.2.2.2.2.2.2.2.1.2 0 _ rfl).2
    exact Option.some.inj (hNm.symm.trans this)
  subst hcA
  have hs1 : va_S A s.heap H1 locs := ⟨Nat.le_trans hS.1 (by omega), fun x q1 q2 => (o1 x (Nat.lt_of_lt_of_le q1 hS.1)).trans (hS.2.1 x q1 q2), hS.2.2⟩
  have hw1 : aWd G A (hset h H.size (eI n.toNat (fun _ => 0))) H1 := w.kept (ho := w.fresh) o1 e1 (hA _ hS.1)
  exact k H.size w.fresh (fun b hb => w.lt hb) p e s m args below meth c A H1 ls locs C hA hw1 hs1 (ho.set (fun _ => okI_0)) (ok_c trivial (ok_t h1)) h2 hl
theorem x_newR {n : Int} {idx : Nat} (hd : decode X.2.1 pc = .ok (.anewarray idx, 3)) (hlk : Cond.classLink X.1.cls idx RX1 ∈ lw_ok) (hn0 : 0 ≤ n) (hn : n ≤ 100000) (hc : kc + 1 ≤ mc) (hs : ks + n.toNat ≤ ms) (k : ∀ q : Nat, h q = none → (∀ b : Nat, (h b).isSome = true → b < q) → EX G X d mc ms Q (pc + 3) L (vA q :: st) (hset h q (eR n.toNat (fun _ => none))) (kc + 1) (ks + n.toNat)) : EX G X d mc ms Q pc L (vI n :: st) h kc ks := by
  intro p e s m args below meth c A H ls locs C hA w hS ho h1 h2 hl
  have hts := C.2.2.2.2.2.1
  have oi := ok_I h1
  have en := i32_nat oi hn0
  refine W.anew C.1 C.2.1 C.2.2.2.2.1 (hts _ hlk) (va_AO.use C.2.2.2.2.2.2.2.2.2.1) rfl hd rfl ?_ (by rw [en]; omega) hc (by rw [en]; exact hs) fun cA kA comp f1 f2 f3 f4 => ?_
  · intro q
    have := (i32_lt oi okI_0).mp q
    omega
  obtain ⟨-, kA', comp', g1, g2, g3, g4⟩ := C.2.2.2.2.2.2.2.2.1.2 2 _ rfl
  have hcA : cA = G.2.2.2.2.2 := Option.some.inj (f1.symm.trans g4)
  subst hcA
  rw [en]
  generalize hH1 : H.push ({ cls := G.2.2.2.2.2, slots := Array.replicate n.toNat .null, vm := .none } : Cell) = H1
  have z1 : H1.size = H.size + 1 := by rw [← hH1, Array.size_push]
  have e1 : H1[H.size]? = some (arrV G.2.2.2.2.2 n.toNat (fun _ => .null)) := by rw [← hH1, Array.getElem?_push_size, ← arrV_new]
  have o1 : ∀ q : Nat, q < H.size → H1[q]? = H[q]? := fun q hq => by rw [← hH1, Array.getElem?_push, if_neg (Nat.ne_of_lt hq)]
  have hs1 : va_S A s.heap H1 locs := ⟨Nat.le_trans hS.1 (by omega), fun x q1 q2 => (o1 x (Nat.lt_of_lt_of_le q1 hS.1)).trans (hS.2.1 x q1 q2), hS.2.2⟩
  have hw1 : aWd G A (hset h H.size (eR n.toNat (fun _ => none))) H1 := w.kept (ho := w.fresh) o1 e1 (hA _ hS.1)
  exact k H.size w.fresh (fun b hb => w.lt hb) p e s m args below meth c A H1 ls locs C hA hw1 hs1 (ho.set trivial) (ok_c trivial (ok_t h1)) h2 hl
end XH
end
section
/-! ===== calls: EX at a call, out of the callee's MC ===== -/
section XC
variable {G : aG} {X Y : aM} {d d' mc ms mc' ms' : Nat} {Q Q' : Option aV → aH → Prop} {pc : Nat} {L L' : List (Nat × aV)} {st : List aV} {h : aH} {kc ks : Nat}
theorem x_after {p : Program} {e : Env} {s : State} {m : MethodId} {args a : Array Value} {below : List Frame} {meth : Method} {c : Code} {A : Nat → Prop} {H : Heap} {ls : Array Slot} {locs : List Loc} {st0 : List Value}
    (C : aCtx G X p s m args meth c) (hA : ∀ q : Nat, s.heap.size ≤ q → A q) (w : aWd G A h H) (hS : va_S A s.heap H locs) (h1 : ∀ v ∈ st, okV v) (h2 : ∀ q ∈ L, okV q.2) (hl : lv_has ls X.2.2.1 (L.map cvq))
    (hr : va_Run p G.1 e (aRm d mc ms) s m args below meth c H locs kc ks mc' ms' (F0 m pc ls st0) (st.map cv) (aQ G (aA h H.size) Q' a) (aA h H.size))
    (k : ∀ (r : Option aV) (h' : aH), Q' r h' → EX G X d mc ms Q (pc + 3) L (r.toList ++ st) h' (kc + mc') (ks + ms')) : W p G.1 e (aRm d mc ms) s m args below meth c H locs kc ks (MQ below (aQ G A Q) args s mc ms A) (F0 m pc ls st0) := by
  have hAA : ∀ q : Nat, aA h H.size q → A q := by
    intro q hq
    rcases hq with hq | hq
    · exact w.in hq
    · exact hA q (Nat.le_trans hS.1 hq)
  intro T hT X₀
  obtain ⟨v, st₀, t, T', Lc, h0, X', hL, e1, e2, ⟨⟨r, h', hq, hv, w', ho', hr'⟩, hz, hk⟩, stp⟩ := hr T hT X₀
  have hv' : v = r.map cv := by injection hv
  subst hv'
  rw [h0] at hz hk
  have w2 : aWd G A h' T'.heap := by rw [e1]; exact w'.weaken fun a _ q => hAA a q
  have hS2 : va_S A s.heap T'.heap (locs ++ Lc) := ⟨Nat.le_trans hS.1 (by rw [e1]; exact hz), fun q q1 q2 => by rw [e1, hk q (Nat.lt_of_lt_of_le q1 hS.1) (fun z => q2 (hAA q z))]; exact hS.2.1 q q1 q2, fun q hq => by
      rcases List.mem_append.mp hq with z | z
      · exact hS.2.2 q z
      · exact hAA _ (hL q z)⟩
  have ok2 : ∀ v ∈ r.toList ++ st, okV v := by
    intro v hv
    rcases List.mem_append.mp hv with z | z
    · exact hr' v (by simpa using z)
    · exact h1 v z
  obtain ⟨t2, a1, b1⟩ := k r h' hq p e s m args below meth c A T'.heap ls (locs ++ Lc) C hA w2 hS2 ho' ok2 h2 hl T' rfl X'
  refine ⟨t2, stp t2 ?_, b1⟩
  have : (r.map cv).toList ++ st.map cv = (r.toList ++ st).map cv := by cases r <;> simp
  rw [this]
  exact a1
def aCal (Y : aM) : Prop := Cond.code Y.1 Y.2.1 Y.2.2.1 Y.2.2.2 ∈ lw_ok ∧ Cond.initialized Y.1.cls ∈ lw_ok ∧ (Y.1.cls ≠ "java/lang/invoke/MethodHandle" ∧ Y.1.cls ≠ "java/lang/invoke/VarHandle") ∧ Y.2.2.1 ≤ 19
theorem aCal.good {Y : aM} (h : aCal Y) : GoodIn lw_ok (.code Y.1 Y.2.1 Y.2.2.1 Y.2.2.2 :: lw_ok) := by
  intro w hw
  have hm : w ∈ lw_ok := by
    rcases List.mem_cons.mp hw with rfl | q
    · exact h.1
    · exact q
  exact ⟨hm, good_of_word (lw_ok_good w hm)⟩
theorem room_le {d d' n : Nat} (hd : d' + 1 ≤ d) (hn : n ≤ 19) : 8 + (n + 11) + 38 * d' ≤ 38 * d := by omega
theorem aPc_blind (as : List aV) (sz : Nat) : FrameBlind (va_Pc (as.map cv) (fun U => U.heap.size = sz ∧ aWd G (fun _ => True) h U.heap ∧ aKx G U)) :=
  fun a U g mk q => ⟨q.1, q.2.1, q.2.2.1, q.2.2.2.blind⟩
theorem aPar {n : Nat} {ds : String} (h : (parseMethodDescriptor ds).map (fun d => d.parameters.length) = some n) : ∀ sig, parseMethodDescriptor ds = some sig → n = sig.parameters.length := by
  intro sig q
  rw [q] at h
  exact (Option.some.inj h).symm
theorem st_rev (as : List aV) (st : List aV) : (as.reverse ++ st).map cv = (as.map cv).reverse ++ st.map cv := by simp
theorem ok_app {as st : List aV} (h : ∀ v ∈ as.reverse ++ st, okV v) : (∀ v ∈ as, okV v) ∧ ∀ v ∈ st, okV v :=
  ⟨fun v hv => h v (List.mem_append_left _ (List.mem_reverse.mpr hv)), fun v hv => h v (List.mem_append_right _ hv)⟩
theorem aRecv {p : Program} {s : State} {m : MethodId} {args : Array Value} {meth : Method} {c : Code} {A : Nat → Prop} {H : Heap} (C : aCtx G X p s m args meth c) (w : aWd G A h H) {b ci : Nat} {fs : List aV} (hb : h b = some (eO ci fs)) {K : String} {T : u_T} {N : Nat} (hc : vwCl[ci]? = some (K, T, N)) : ∃ cell : Cell, H[b]? = some cell ∧ cell.vm.isStatics = false ∧ s.vm.findClass K = some cell.cls := by
  obtain ⟨Ls, q, hP, hD, hL, hm, hk⟩ := w.get hb
  exact va_recv C.2.2.2.2.2.2.2.2.1 hP hc hk
theorem catsum (st : List aV) (hcat : ((st.map cv).map fun v => v.category).sum ≤ 8) : (((st.map cv)).map fun v => v.category).sum ≤ 8 := hcat
-- an ordinary virtual call (the method named is the one that runs)
def aLkV (own : String) (idx ci : Nat) (Y : aM) (n : Nat) : Prop := aCal Y ∧ ∃ (K : String) (T : u_T) (N : Nat), vwCl[ci]? = some (K, T, N) ∧ Cond.methodLink own idx Y.1 ∈ lw_ok ∧ Cond.instanceMethod Y.1 ∈ lw_ok ∧ Cond.selects K Y.1 Y.1 ∈ lw_ok ∧ (parseMethodDescriptor Y.1.desc).map (fun d => d.parameters.length) = some n
theorem x_callV {b ci n idx : Nat} {fs : List aV} (as : List aV) {stk : List aV} (hd : decode X.2.1 pc = .ok (.invokevirtual idx, 3)) (hk : aLkV X.1.cls idx ci Y n) (hstk : stk = as.reverse ++ vA b :: st) (hn : as.length = n) (hb : h b = some (eO ci fs)) (hdd : d' + 1 ≤ d) (hcat : ((st.map cv).map fun v => v.category).sum ≤ 8) (hc : kc + mc' ≤ mc) (hs : ks + ms' ≤ ms)
    (hM : MC G Y d' mc' ms' (vA b :: as) h Q') (k : ∀ (r : Option aV) (h' : aH), Q' r h' → EX G X d mc ms Q (pc + 3) L (r.toList ++ st) h' (kc + mc') (ks + ms')) : EX G X d mc ms Q pc L stk h kc ks := by
  subst hstk
  intro p e s m args below meth c A H ls locs C hA w hS ho h1 h2 hl
  obtain ⟨hY, K, T, N, hcl, hlk, hin, hsel, hpar⟩ := hk
  have hts := C.2.2.2.2.2.1
  obtain ⟨o1, o2⟩ := ok_app h1
  have hM1 := hM (ok_c trivial o1) ho H.size
  have hrcv := aRecv C w hb hcl
  have hcall : CallW (aRm d mc ms) s args X.1.cls K idx Y.1 Y.2.1 Y.2.2.1 Y.2.2.2 (.code Y.1 Y.2.1 Y.2.2.1 Y.2.2.2 :: lw_ok) (aRm d' mc' ms') mc' ms' n :=
    ⟨⟨rfl, rfl, hdd, room_le hdd hY.2.2.2, pay_in hts hY.good, List.mem_cons_self, hts _ hY.1, hts _ hY.2.1, hY.2.2.1, aPar hpar, hts _ hlk⟩, hts _ hin, hts _ hsel⟩
  rw [st_rev, List.map_cons]
  refine x_after (st := st) C hA w hS (ok_t o2) h2 hl (va_runV (As := as.map cv) (rest := st.map cv) ⟨C.1, C.2.1, C.2.2.1, C.2.2.2.2.1, hts⟩ hM1 hcall ⟨aPc_blind _ _, hrcv, fun U hU hW => ⟨rfl, by rw [hU], by rw [hU]; exact w.weaken fun _ _ _ => trivial, C.2.2.2.2.2.2.2.2.warm hW⟩⟩ rfl (by rw [List.length_map]; exact hn) hl.1 rfl (lv_room hcat) hd ⟨hc, hs⟩) k
-- a virtual call of a method that is inherited or overridden
def aLkU (own : String) (idx ci : Nat) (x : MethodName) (Y : aM) (n : Nat) : Prop := aCal Y ∧ ∃ (K owner : String) (T : u_T) (N : Nat) (b0 : ByteArray) (m0 : Nat) (r0 : Option FieldType), vwCl[ci]? = some (K, T, N) ∧ Cond.methodLink own idx x ∈ lw_ok ∧ Cond.sameMethod x.cls owner x.name x.desc ∈ lw_ok ∧ Cond.instanceMethod ⟨owner, x.name, x.desc⟩ ∈ lw_ok ∧ Cond.code ⟨owner, x.name, x.desc⟩ b0 m0 r0 ∈ lw_ok ∧ Cond.selects K x Y.1 ∈ lw_ok ∧ Cond.instanceMethod Y.1 ∈ lw_ok ∧ (owner ≠ "java/lang/invoke/MethodHandle" ∧ owner ≠ "java/lang/invoke/VarHandle") ∧ (parseMethodDescriptor x.desc).map (fun d => d.parameters.length) = some n
theorem x_callU {b ci n idx : Nat} {x : MethodName} {fs : List aV} (as : List aV) {stk : List aV} (hd : decode X.2.1 pc = .ok (.invokevirtual idx, 3)) (hk : aLkU X.1.cls idx ci x Y n) (hstk : stk = as.reverse ++ vA b :: st) (hn : as.length = n) (hb : h b = some (eO ci fs)) (hdd : d' + 1 ≤ d) (hcat : ((st.map cv).map fun v => v.category).sum ≤ 8) (hc : kc + mc' ≤ mc) (hs : ks + ms' ≤ ms)
    (hM : MC G Y d' mc' ms' (vA b :: as) h Q') (k : ∀ (r : Option aV) (h' : aH), Q' r h' → EX G X d mc ms Q (pc + 3) L (r.toList ++ st) h' (kc + mc') (ks + ms')) : EX G X d mc ms Q pc L stk h kc ks := by
  subst hstk
  intro p e s m args below meth c A H ls locs C hA w hS ho h1 h2 hl
  obtain ⟨hY, K, owner, T, N, b0, m0, r0, hcl, hlk, hsm, hdc, hcd, hsel, hin, how, hpar⟩ := hk
  have hts := C.2.2.2.2.2.1
  obtain ⟨o1, o2⟩ := ok_app h1
  have hM1 := hM (ok_c trivial o1) ho H.size
  have hrcv := aRecv C w hb hcl
  have hcall : va_CU (aRm d mc ms) s args X.1.cls K owner idx x Y.1 Y.2.1 Y.2.2.1 Y.2.2.2 (.code Y.1 Y.2.1 Y.2.2.1 Y.2.2.2 :: lw_ok) (aRm d' mc' ms') mc' ms' n :=
    ⟨⟨rfl, rfl, hdd, room_le hdd hY.2.2.2, pay_in hts hY.good, List.mem_cons_self⟩, hts _ hY.1, hts _ hY.2.1, how, aPar hpar, hts _ hlk, hts _ hsm, va_Decl.of (hts _ hdc) (hts _ hcd), hts _ hsel, hts _ hin⟩
  rw [st_rev, List.map_cons]
  refine x_after (st := st) C hA w hS (ok_t o2) h2 hl (va_runU (As := as.map cv) (rest := st.map cv) ⟨C.1, C.2.1, C.2.2.1, C.2.2.2.2.1, hts⟩ hM1 hcall ⟨aPc_blind _ _, hrcv, fun U hU hW => ⟨rfl, by rw [hU], by rw [hU]; exact w.weaken fun _ _ _ => trivial, C.2.2.2.2.2.2.2.2.warm hW⟩⟩ rfl (by rw [List.length_map]; exact hn) hl.1 rfl (lv_room hcat) hd ⟨hc, hs⟩) k
-- a static call
def aLkS (own : String) (idx : Nat) (Y : aM) (n : Nat) : Prop := aCal Y ∧ Cond.methodLink own idx Y.1 ∈ lw_ok ∧ Cond.static Y.1 ∈ lw_ok ∧ (parseMethodDescriptor Y.1.desc).map (fun d => d.parameters.length) = some n
theorem x_callS {n idx : Nat} (as : List aV) {stk : List aV} (hd : decode X.2.1 pc = .ok (.invokestatic idx, 3)) (hk : aLkS X.1.cls idx Y n) (hstk : stk = as.reverse ++ st) (hn : as.length = n) (hdd : d' + 1 ≤ d) (hcat : ((st.map cv).map fun v => v.category).sum ≤ 8) (hc : kc + mc' ≤ mc) (hs : ks + ms' ≤ ms)
    (hM : MC G Y d' mc' ms' as h Q') (k : ∀ (r : Option aV) (h' : aH), Q' r h' → EX G X d mc ms Q (pc + 3) L (r.toList ++ st) h' (kc + mc') (ks + ms')) : EX G X d mc ms Q pc L stk h kc ks := by
  subst hstk
  intro p e s m args below meth c A H ls locs C hA w hS ho h1 h2 hl
  obtain ⟨hY, hlk, hst, hpar⟩ := hk
  have hts := C.2.2.2.2.2.1
  obtain ⟨o1, o2⟩ := ok_app h1
  have hM1 := hM o1 ho H.size
  have hcall : CallB (aRm d mc ms) s args X.1.cls idx Y.1 Y.2.1 Y.2.2.1 Y.2.2.2 (.code Y.1 Y.2.1 Y.2.2.1 Y.2.2.2 :: lw_ok) (aRm d' mc' ms') mc' ms' n :=
    ⟨rfl, rfl, hdd, room_le hdd hY.2.2.2, pay_in hts hY.good, List.mem_cons_self, hts _ hY.1, hts _ hY.2.1, hY.2.2.1, aPar hpar, hts _ hlk⟩
  rw [st_rev]
  refine x_after (st := st) C hA w hS o2 h2 hl (va_runS (As := as.map cv) (rest := st.map cv) ⟨C.1, C.2.1, C.2.2.1, C.2.2.2.2.1, hts⟩ hM1 ⟨hcall, hts _ hst⟩ ⟨aPc_blind _ _, fun U hU hW => ⟨rfl, by rw [hU], by rw [hU]; exact w.weaken fun _ _ _ => trivial, C.2.2.2.2.2.2.2.2.warm hW⟩⟩ rfl (by rw [List.length_map]; exact hn) hl.1 rfl (lv_room hcat) hd ⟨hc, hs⟩) k
-- a constructor
def aLkI (own : String) (idx : Nat) (Y : aM) (n : Nat) : Prop := aCal Y ∧ Y.2.2.2 = none ∧ Cond.methodLink own idx Y.1 ∈ lw_ok ∧ Cond.instanceMethod Y.1 ∈ lw_ok ∧ Y.1.name = "<init>" ∧ (parseMethodDescriptor Y.1.desc).map (fun d => d.parameters.length) = some n
theorem x_callI {b n idx : Nat} (as : List aV) {stk : List aV} (hd : decode X.2.1 pc = .ok (.invokespecial idx, 3)) (hk : aLkI X.1.cls idx Y n) (hstk : stk = as.reverse ++ vA b :: st) (hn : as.length = n) (hdd : d' + 1 ≤ d) (hcat : ((st.map cv).map fun v => v.category).sum ≤ 8) (hc : kc + mc' ≤ mc) (hs : ks + ms' ≤ ms)
    (hM : MC G Y d' mc' ms' (vA b :: as) h Q') (k : ∀ (r : Option aV) (h' : aH), Q' r h' → EX G X d mc ms Q (pc + 3) L (r.toList ++ st) h' (kc + mc') (ks + ms')) : EX G X d mc ms Q pc L stk h kc ks := by
  subst hstk
  intro p e s m args below meth c A H ls locs C hA w hS ho h1 h2 hl
  obtain ⟨hY, hret, hlk, hin, hnm, hpar⟩ := hk
  obtain ⟨y, code, maxL, ret⟩ := Y
  simp only at hret hnm hpar hlk hin
  subst hret
  have hts := C.2.2.2.2.2.1
  obtain ⟨o1, o2⟩ := ok_app h1
  have hM1 := hM (ok_c trivial o1) ho H.size
  have hcall : CallB (aRm d mc ms) s args X.1.cls idx y code maxL none (.code y code maxL none :: lw_ok) (aRm d' mc' ms') mc' ms' n :=
    ⟨rfl, rfl, hdd, room_le hdd hY.2.2.2, pay_in hts hY.good, List.mem_cons_self, hts _ hY.1, hts _ hY.2.1, hY.2.2.1, aPar hpar, hts _ hlk⟩
  rw [st_rev, List.map_cons]
  refine x_after (st := st) C hA w hS (ok_t o2) h2 hl (va_runI (b := b) (As := as.map cv) (rest := st.map cv) ⟨C.1, C.2.1, C.2.2.1, C.2.2.2.2.1, hts⟩ hM1 ⟨hcall, hnm, hts _ hin⟩ ⟨aPc_blind _ _, fun U hU hW => ⟨rfl, by rw [hU], by rw [hU]; exact w.weaken fun _ _ _ => trivial, C.2.2.2.2.2.2.2.2.warm hW⟩⟩ rfl (by rw [List.length_map]; exact hn) hl.1 rfl (lv_room hcat) hd ⟨hc, hs⟩) k
-- a private constructor of a nest mate
def aLkIN (own : String) (idx : Nat) (Y : aM) (n : Nat) : Prop := aCal Y ∧ Y.2.2.2 = none ∧ (∃ host : String, Cond.methodLinkNest own idx Y.1 host ∈ aNW) ∧ Cond.instanceMethod Y.1 ∈ lw_ok ∧ Y.1.name = "<init>" ∧ (parseMethodDescriptor Y.1.desc).map (fun d => d.parameters.length) = some n
theorem x_callIN {b n idx : Nat} (as : List aV) {stk : List aV} (hd : decode X.2.1 pc = .ok (.invokespecial idx, 3)) (hk : aLkIN X.1.cls idx Y n) (hstk : stk = as.reverse ++ vA b :: st) (hn : as.length = n) (hdd : d' + 1 ≤ d) (hcat : ((st.map cv).map fun v => v.category).sum ≤ 8) (hc : kc + mc' ≤ mc) (hs : ks + ms' ≤ ms)
    (hM : MC G Y d' mc' ms' (vA b :: as) h Q') (k : ∀ (r : Option aV) (h' : aH), Q' r h' → EX G X d mc ms Q (pc + 3) L (r.toList ++ st) h' (kc + mc') (ks + ms')) : EX G X d mc ms Q pc L stk h kc ks := by
  subst hstk
  intro p e s m args below meth c A H ls locs C hA w hS ho h1 h2 hl
  obtain ⟨hY, hret, ⟨host, hlk⟩, hin, hnm, hpar⟩ := hk
  obtain ⟨y, code, maxL, ret⟩ := Y
  simp only at hret hnm hpar hlk hin
  subst hret
  have hts := C.2.2.2.2.2.1
  obtain ⟨o1, o2⟩ := ok_app h1
  have hM1 := hM (ok_c trivial o1) ho H.size
  have hlk2 := va_Nw.use (A := args) (aNW_tables _ hlk) (C.2.2.2.2.2.2.2.2.2.2 _ hlk)
  have hcall : va_CN (aRm d mc ms) s args X.1.cls idx y host code maxL none (.code y code maxL none :: lw_ok) (aRm d' mc' ms') mc' ms' n :=
    ⟨⟨rfl, rfl, hdd, room_le hdd hY.2.2.2, pay_in hts hY.good, List.mem_cons_self⟩, hts _ hY.1, hts _ hY.2.1, hY.2.2.1, aPar hpar, hlk2⟩
  rw [st_rev, List.map_cons]
  refine x_after (st := st) C hA w hS (ok_t o2) h2 hl (va_runIN (b := b) (As := as.map cv) (rest := st.map cv) ⟨C.1, C.2.1, C.2.2.1, C.2.2.2.2.1, hts⟩ hM1 ⟨hcall, hnm, hts _ hin⟩ ⟨aPc_blind _ _, fun U hU hW => ⟨rfl, by rw [hU], by rw [hU]; exact w.weaken fun _ _ _ => trivial, C.2.2.2.2.2.2.2.2.warm hW⟩⟩ rfl (by rw [List.length_map]; exact hn) hl.1 rfl (lv_room hcat) hd ⟨hc, hs⟩) k
-- super.method()
def aLkSU (own : String) (idx ci : Nat) (Y : aM) (n : Nat) : Prop := aCal Y ∧ ∃ (K : String) (T : u_T) (N : Nat), vwCl[ci]? = some (K, T, N) ∧ Cond.methodLink own idx Y.1 ∈ lw_ok ∧ Cond.sameMethod Y.1.cls Y.1.cls Y.1.name Y.1.desc ∈ lw_ok ∧ Cond.superclass own Y.1.cls ∈ lw_ok ∧ Cond.instanceMethod Y.1 ∈ lw_ok ∧ Y.1.name ≠ "<init>" ∧ (parseMethodDescriptor Y.1.desc).map (fun d => d.parameters.length) = some n
theorem x_callSU {b ci n idx : Nat} {fs : List aV} (as : List aV) {stk : List aV} (hd : decode X.2.1 pc = .ok (.invokespecial idx, 3)) (hk : aLkSU X.1.cls idx ci Y n) (hstk : stk = as.reverse ++ vA b :: st) (hn : as.length = n) (hb : h b = some (eO ci fs)) (hdd : d' + 1 ≤ d) (hcat : ((st.map cv).map fun v => v.category).sum ≤ 8) (hc : kc + mc' ≤ mc) (hs : ks + ms' ≤ ms)
    (hM : MC G Y d' mc' ms' (vA b :: as) h Q') (k : ∀ (r : Option aV) (h' : aH), Q' r h' → EX G X d mc ms Q (pc + 3) L (r.toList ++ st) h' (kc + mc') (ks + ms')) : EX G X d mc ms Q pc L stk h kc ks := by
  subst hstk
  intro p e s m args below meth c A H ls locs C hA w hS ho h1 h2 hl
  obtain ⟨hY, K, T, N, hcl, hlk, hsm, hsup, hin, hnm, hpar⟩ := hk
  have hts := C.2.2.2.2.2.1
  obtain ⟨o1, o2⟩ := ok_app h1
  have hM1 := hM (ok_c trivial o1) ho H.size
  have hrcv := aRecv C w hb hcl
  have hcall : va_CS (aRm d mc ms) s args X.1.cls idx Y.1 Y.2.1 Y.2.2.1 Y.2.2.2 (.code Y.1 Y.2.1 Y.2.2.1 Y.2.2.2 :: lw_ok) (aRm d' mc' ms') mc' ms' n :=
    ⟨⟨rfl, rfl, hdd, room_le hdd hY.2.2.2, pay_in hts hY.good, List.mem_cons_self⟩, hts _ hlk, hts _ hsm, hts _ hsup, hts _ hin, hts _ hY.2.1, hts _ hY.1, hnm, aPar hpar⟩
  rw [st_rev, List.map_cons]
  refine x_after (st := st) C hA w hS (ok_t o2) h2 hl (va_runSU (C.2.2.2.2.2.2.2.2.1.1 ci _ hcl).2 (As := as.map cv) (rest := st.map cv) ⟨C.1, C.2.1, C.2.2.1, C.2.2.2.2.1, hts⟩ hM1 hcall ⟨aPc_blind _ _, hrcv, fun U hU hW => ⟨rfl, by rw [hU], by rw [hU]; exact w.weaken fun _ _ _ => trivial, C.2.2.2.2.2.2.2.2.warm hW⟩⟩ rfl (by rw [List.length_map]; exact hn) hl.1 rfl (lv_room hcat) hd ⟨hc, hs⟩) k
/-- Object's constructor -/
theorem x_objInit {a idx : Nat} (hd : decode X.2.1 pc = .ok (.invokespecial idx, 3)) (hlk : Cond.methodLink X.1.cls idx Lib.objectInit ∈ lw_ok) (hd1 : 1 ≤ d) (hcat : ((st.map cv).map fun v => v.category).sum ≤ 8) (k : EX G X d mc ms Q (pc + 3) L st h kc ks) : EX G X d mc ms Q pc L (vA a :: st) h kc ks := by
  intro p e s m args below meth c A H ls locs C hA w hS ho h1 h2 hl
  have hts := C.2.2.2.2.2.1
  have e1 : Cond.instanceMethod Lib.objectInit ∈ lw_ok := by decide +kernel
  have e2 : Cond.code Lib.objectInit ⟨#[0xb1]⟩ 1 none ∈ lw_ok := by decide +kernel
  refine W.objInit C.1 C.2.1 C.2.2.2.2.1 (hts _ hlk) (hts _ e1) (hts _ e2) rfl (hl.1.trans C.2.2.1.symm) rfl hd hd1 ?_ (k p e s m args below meth c A H ls locs C hA w hS ho (ok_t h1) h2 hl)
  show 2 * 0 + ((st.map cv).map fun v => v.category).sum + 12 ≤ 38 * d
  omega
-- Math
theorem x_maxI {idx : Nat} {x y : Int} (hd : decode X.2.1 pc = .ok (.invokestatic idx, 3)) (hlk : Cond.methodLink X.1.cls idx Lib.Math.max.name ∈ lw_ok) (hd1 : 1 ≤ d) (hcat : ((st.map cv).map fun v => v.category).sum ≤ 8) (hc : kc ≤ mc) (hs : ks ≤ ms) (k : EX G X d mc ms Q (pc + 3) L (vI (max x y) :: st) h kc ks) : EX G X d mc ms Q pc L (vI y :: vI x :: st) h kc ks := by
  intro p e s m args below meth c A H ls locs C hA w hS ho h1 h2 hl
  have hts := C.2.2.2.2.2.1
  have e1 : Cond.static Lib.Math.max.name ∈ lw_ok := by decide +kernel
  have e2 : Cond.code Lib.Math.max.name Lib.Math.max.code 2 (some .int) ∈ lw_ok := by decide +kernel
  have e3 : Cond.initialized "java/lang/Math" ∈ lw_ok := by decide +kernel
  have oy := ok_I h1
  have ox := ok_I (ok_t h1)
  refine va_mmax C.1 C.2.1 (C.2.2.1.trans hl.1.symm) C.2.2.2.2.1 (hts _ hlk) (hts _ e1) (hts _ e3) (hts _ e2) hd1 ?_ hc hs hd ?_
  · show ((st.map cv).map fun v => v.category).sum + 13 ≤ 38 * d
    omega
  · have hm : (if Int32.ofInt x < Int32.ofInt y then Int32.ofInt y else Int32.ofInt x) = Int32.ofInt (max x y) := by
      by_cases hxy : x < y
      · rw [if_pos ((i32_lt ox oy).mpr hxy), Int.max_eq_right (by omega)]
      · rw [if_neg (fun z => hxy ((i32_lt ox oy).mp z)), Int.max_eq_left (by omega)]
    rw [hm]
    exact k p e s m args below meth c A H ls locs C hA w hS ho (ok_c (show okI _ by unfold okI at *; omega) (ok_t (ok_t h1))) h2 hl
theorem x_minI {idx : Nat} {x y : Int} (hd : decode X.2.1 pc = .ok (.invokestatic idx, 3)) (hlk : Cond.methodLink X.1.cls idx Lib.Math.min.name ∈ lw_ok) (hd1 : 1 ≤ d) (hcat : ((st.map cv).map fun v => v.category).sum ≤ 8) (hc : kc ≤ mc) (hs : ks ≤ ms) (k : EX G X d mc ms Q (pc + 3) L (vI (min x y) :: st) h kc ks) : EX G X d mc ms Q pc L (vI y :: vI x :: st) h kc ks := by
  intro p e s m args below meth c A H ls locs C hA w hS ho h1 h2 hl
  have hts := C.2.2.2.2.2.1
  have e1 : Cond.static Lib.Math.min.name ∈ lw_ok := by decide +kernel
  have e2 : Cond.code Lib.Math.min.name Lib.Math.min.code 2 (some .int) ∈ lw_ok := by decide +kernel
  have e3 : Cond.initialized "java/lang/Math" ∈ lw_ok := by decide +kernel
  have oy := ok_I h1
  have ox := ok_I (ok_t h1)
  refine va_mmin C.1 C.2.1 (C.2.2.1.trans hl.1.symm) C.2.2.2.2.1 (hts _ hlk) (hts _ e1) (hts _ e3) (hts _ e2) hd1 ?_ hc hs hd ?_
  · show ((st.map cv).map fun v => v.category).sum + 13 ≤ 38 * d
    omega
  · have hm : (if Int32.ofInt y < Int32.ofInt x then Int32.ofInt y else Int32.ofInt x) = Int32.ofInt (min x y) := by
      by_cases hxy : y < x
      · rw [if_pos ((i32_lt oy ox).mpr hxy), Int.min_eq_right (by omega)]
      · rw [if_neg (fun z => hxy ((i32_lt oy ox).mp z)), Int.min_eq_left (by omega)]
    rw [hm]
    exact k p e s m args below meth c A H ls locs C hA w hS ho (ok_c (show okI _ by unfold okI at *; omega) (ok_t (ok_t h1))) h2 hl
theorem x_maxJ {idx : Nat} {x y : Int} (hd : decode X.2.1 pc = .ok (.invokestatic idx, 3)) (hlk : Cond.methodLink X.1.cls idx Lib.MathLoose.max_long.x ∈ lw_ok) (hd1 : 1 ≤ d) (hcat : ((st.map cv).map fun v => v.category).sum ≤ 8) (hc : kc ≤ mc) (hs : ks ≤ ms) (k : EX G X d mc ms Q (pc + 3) L (vJ (max x y) :: st) h kc ks) : EX G X d mc ms Q pc L (vJ y :: vJ x :: st) h kc ks := by
  intro p e s m args below meth c A H ls locs C hA w hS ho h1 h2 hl
  have hts := C.2.2.2.2.2.1
  have e1 : Cond.static Lib.MathLoose.max_long.x ∈ lw_ok := by decide +kernel
  have e2 : Cond.code Lib.MathLoose.max_long.x Lib.MathLoose.max_long.code 4 (some .long) ∈ lw_ok := by decide +kernel
  have e3 : Cond.initialized "java/lang/Math" ∈ lw_ok := by decide +kernel
  have oy := ok_J h1
  have ox := ok_J (ok_t h1)
  refine va_mmax_long C.1 C.2.1 (C.2.2.1.trans hl.1.symm) C.2.2.2.2.1 (hts _ hlk) (hts _ e1) (hts _ e3) (hts _ e2) hd1 ?_ hc hs hd ?_
  · show ((st.map cv).map fun v => v.category).sum + 15 ≤ 38 * d
    omega
  · have hm : (if Int64.ofInt y < Int64.ofInt x then Int64.ofInt x else Int64.ofInt y) = Int64.ofInt (max x y) := by
      by_cases hxy : y < x
      · rw [if_pos ((i64_lt oy ox).mpr hxy), Int.max_eq_left (by omega)]
      · rw [if_neg (fun z => hxy ((i64_lt oy ox).mp z)), Int.max_eq_right (by omega)]
    rw [hm]
    exact k p e s m args below meth c A H ls locs C hA w hS ho (ok_c (show okJ _ by unfold okJ at *; omega) (ok_t (ok_t h1))) h2 hl
theorem x_minJ {idx : Nat} {x y : Int} (hd : decode X.2.1 pc = .ok (.invokestatic idx, 3)) (hlk : Cond.methodLink X.1.cls idx Lib.MathLoose.min_long.x ∈ lw_ok) (hd1 : 1 ≤ d) (hcat : ((st.map cv).map fun v => v.category).sum ≤ 8) (hc : kc ≤ mc) (hs : ks ≤ ms) (k : EX G X d mc ms Q (pc + 3) L (vJ (min x y) :: st) h kc ks) : EX G X d mc ms Q pc L (vJ y :: vJ x :: st) h kc ks := by
  intro p e s m args below meth c A H ls locs C hA w hS ho h1 h2 hl
  have hts := C.2.2.2.2.2.1
  have e1 : Cond.static Lib.MathLoose.min_long.x ∈ lw_ok := by decide +kernel
  have e2 : Cond.code Lib.MathLoose.min_long.x Lib.MathLoose.min_long.code 4 (some .long) ∈ lw_ok := by decide +kernel
  have e3 : Cond.initialized "java/lang/Math" ∈ lw_ok := by decide +kernel
  have oy := ok_J h1
  have ox := ok_J (ok_t h1)
  refine va_mmin_long C.1 C.2.1 (C.2.2.1.trans hl.1.symm) C.2.2.2.2.1 (hts _ hlk) (hts _ e1) (hts _ e3) (hts _ e2) hd1 ?_ hc hs hd ?_
  · show ((st.map cv).map fun v => v.category).sum + 15 ≤ 38 * d
    omega
  · have hm : (if Int64.ofInt y < Int64.ofInt x then Int64.ofInt y else Int64.ofInt x) = Int64.ofInt (min x y) := by
      by_cases hxy : y < x
      · rw [if_pos ((i64_lt oy ox).mpr hxy), Int.min_eq_right (by omega)]
      · rw [if_neg (fun z => hxy ((i64_lt oy ox).mp z)), Int.min_eq_left (by omega)]
    rw [hm]
    exact k p e s m args below meth c A H ls locs C hA w hS ho (ok_c (show okJ _ by unfold okJ at *; omega) (ok_t (ok_t h1))) h2 hl
end XC
end
