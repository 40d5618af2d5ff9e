-- ===== PART A: goes FIRST, ahead of the names: the tables' words, and 'selects' of the private methods out of them =====
/-- a private method of a class that the tables say can be made, by its rows of tables_1 -/
def lw_okq (q : MethodName × Nat) : Prop := (q.1.cls ≠ "java/lang/invoke/MethodHandle" ∧ q.1.cls ≠ "java/lang/invoke/VarHandle") ∧ Cond.instantiable q.1.cls q.2 ∈ tables_1 ∧ Cond.privateMethod q.1 ∈ tables_1 ∧ Cond.instanceMethod q.1 ∈ tables_1
theorem lw_p0 : lw_okq (⟨"FlowCurves", "refused", "(I)I"⟩, 10) := ⟨⟨by decide +kernel, by decide +kernel⟩, List.mem_of_getElem? (i := 16) (by decide +kernel), List.mem_of_getElem? (i := 104) (by decide +kernel), List.mem_of_getElem? (i := 105) (by decide +kernel)⟩
theorem lw_p1 : lw_okq (⟨"FlowCurves", "granted", "(I)I"⟩, 10) := ⟨⟨by decide +kernel, by decide +kernel⟩, List.mem_of_getElem? (i := 16) (by decide +kernel), List.mem_of_getElem? (i := 108) (by decide +kernel), List.mem_of_getElem? (i := 109) (by decide +kernel)⟩
theorem lw_p2 : lw_okq (⟨"FlowCurves", "rowComesRound", "(II)Z"⟩, 10) := ⟨⟨by decide +kernel, by decide +kernel⟩, List.mem_of_getElem? (i := 16) (by decide +kernel), List.mem_of_getElem? (i := 129) (by decide +kernel), List.mem_of_getElem? (i := 130) (by decide +kernel)⟩
theorem lw_p3 : lw_okq (⟨"FlowCurves$Maker", "settled", "(II)LFlowCurves$Curve;"⟩, 3) := ⟨⟨by decide +kernel, by decide +kernel⟩, List.mem_of_getElem? (i := 52) (by decide +kernel), List.mem_of_getElem? (i := 137) (by decide +kernel), List.mem_of_getElem? (i := 138) (by decide +kernel)⟩
theorem lw_p4 : lw_okq (⟨"FlowCurves$Maker", "leastStep", "(II)I"⟩, 3) := ⟨⟨by decide +kernel, by decide +kernel⟩, List.mem_of_getElem? (i := 52) (by decide +kernel), List.mem_of_getElem? (i := 141) (by decide +kernel), List.mem_of_getElem? (i := 142) (by decide +kernel)⟩
theorem lw_p5 : lw_okq (⟨"FlowCurves$Maker", "alsoComesRoundBy", "(III)Z"⟩, 3) := ⟨⟨by decide +kernel, by decide +kernel⟩, List.mem_of_getElem? (i := 52) (by decide +kernel), List.mem_of_getElem? (i := 145) (by decide +kernel), List.mem_of_getElem? (i := 146) (by decide +kernel)⟩
theorem lw_p6 : lw_okq (⟨"FlowCurves", "kept", "(LFlowCurves$Curve;)I"⟩, 10) := ⟨⟨by decide +kernel, by decide +kernel⟩, List.mem_of_getElem? (i := 16) (by decide +kernel), List.mem_of_getElem? (i := 253) (by decide +kernel), List.mem_of_getElem? (i := 254) (by decide +kernel)⟩
theorem lw_p7 : lw_okq (⟨"FlowCurves", "curveNumbered", "(I)LFlowCurves$Curve;"⟩, 10) := ⟨⟨by decide +kernel, by decide +kernel⟩, List.mem_of_getElem? (i := 16) (by decide +kernel), List.mem_of_getElem? (i := 269) (by decide +kernel), List.mem_of_getElem? (i := 270) (by decide +kernel)⟩
theorem lw_p8 : lw_okq (⟨"FlowCurves$Maker", "laySideBySide", "(II)V"⟩, 3) := ⟨⟨by decide +kernel, by decide +kernel⟩, List.mem_of_getElem? (i := 52) (by decide +kernel), List.mem_of_getElem? (i := 307) (by decide +kernel), List.mem_of_getElem? (i := 308) (by decide +kernel)⟩
theorem lw_p9 : lw_okq (⟨"FlowCurves$Maker", "layRest", "(I)V"⟩, 3) := ⟨⟨by decide +kernel, by decide +kernel⟩, List.mem_of_getElem? (i := 52) (by decide +kernel), List.mem_of_getElem? (i := 317) (by decide +kernel), List.mem_of_getElem? (i := 318) (by decide +kernel)⟩
theorem lw_p10 : lw_okq (⟨"FlowCurves$Maker", "layBoth", "(III)V"⟩, 3) := ⟨⟨by decide +kernel, by decide +kernel⟩, List.mem_of_getElem? (i := 52) (by decide +kernel), List.mem_of_getElem? (i := 321) (by decide +kernel), List.mem_of_getElem? (i := 322) (by decide +kernel)⟩
theorem lw_p11 : lw_okq (⟨"FlowCurves$Maker", "leastTogether", "(III)J"⟩, 3) := ⟨⟨by decide +kernel, by decide +kernel⟩, List.mem_of_getElem? (i := 52) (by decide +kernel), List.mem_of_getElem? (i := 325) (by decide +kernel), List.mem_of_getElem? (i := 326) (by decide +kernel)⟩
theorem lw_p12 : lw_okq (⟨"FlowCurves$Maker", "layOff", "(II)V"⟩, 3) := ⟨⟨by decide +kernel, by decide +kernel⟩, List.mem_of_getElem? (i := 52) (by decide +kernel), List.mem_of_getElem? (i := 330) (by decide +kernel), List.mem_of_getElem? (i := 331) (by decide +kernel)⟩
theorem lw_p13 : lw_okq (⟨"FlowCurves$Maker", "comesRound", "(IIJ)Z"⟩, 3) := ⟨⟨by decide +kernel, by decide +kernel⟩, List.mem_of_getElem? (i := 52) (by decide +kernel), List.mem_of_getElem? (i := 338) (by decide +kernel), List.mem_of_getElem? (i := 339) (by decide +kernel)⟩
theorem lw_p14 : lw_okq (⟨"FlowCurves", "refusedAmount", "(I)J"⟩, 10) := ⟨⟨by decide +kernel, by decide +kernel⟩, List.mem_of_getElem? (i := 16) (by decide +kernel), List.mem_of_getElem? (i := 366) (by decide +kernel), List.mem_of_getElem? (i := 367) (by decide +kernel)⟩
theorem lw_p15 : lw_okq (⟨"FlowCurves", "grantedAmount", "(J)J"⟩, 10) := ⟨⟨by decide +kernel, by decide +kernel⟩, List.mem_of_getElem? (i := 16) (by decide +kernel), List.mem_of_getElem? (i := 398) (by decide +kernel), List.mem_of_getElem? (i := 399) (by decide +kernel)⟩
def lw_privs_1 : List (MethodName × Nat) := [(⟨"FlowCurves", "refused", "(I)I"⟩, 10), (⟨"FlowCurves", "granted", "(I)I"⟩, 10), (⟨"FlowCurves", "rowComesRound", "(II)Z"⟩, 10), (⟨"FlowCurves$Maker", "settled", "(II)LFlowCurves$Curve;"⟩, 3), (⟨"FlowCurves$Maker", "leastStep", "(II)I"⟩, 3), (⟨"FlowCurves$Maker", "alsoComesRoundBy", "(III)Z"⟩, 3), (⟨"FlowCurves", "kept", "(LFlowCurves$Curve;)I"⟩, 10), (⟨"FlowCurves", "curveNumbered", "(I)LFlowCurves$Curve;"⟩, 10), (⟨"FlowCurves$Maker", "laySideBySide", "(II)V"⟩, 3), (⟨"FlowCurves$Maker", "layRest", "(I)V"⟩, 3), (⟨"FlowCurves$Maker", "layBoth", "(III)V"⟩, 3), (⟨"FlowCurves$Maker", "leastTogether", "(III)J"⟩, 3), (⟨"FlowCurves$Maker", "layOff", "(II)V"⟩, 3), (⟨"FlowCurves$Maker", "comesRound", "(IIJ)Z"⟩, 3), (⟨"FlowCurves", "refusedAmount", "(I)J"⟩, 10), (⟨"FlowCurves", "grantedAmount", "(J)J"⟩, 10)]
theorem lw_r1 : ∀ q ∈ lw_privs_1, lw_okq q := List.forall_mem_cons.mpr ⟨lw_p0, List.forall_mem_cons.mpr ⟨lw_p1, List.forall_mem_cons.mpr ⟨lw_p2, List.forall_mem_cons.mpr ⟨lw_p3, List.forall_mem_cons.mpr ⟨lw_p4, List.forall_mem_cons.mpr ⟨lw_p5, List.forall_mem_cons.mpr ⟨lw_p6, List.forall_mem_cons.mpr ⟨lw_p7, List.forall_mem_cons.mpr ⟨lw_p8, List.forall_mem_cons.mpr ⟨lw_p9, List.forall_mem_cons.mpr ⟨lw_p10, List.forall_mem_cons.mpr ⟨lw_p11, List.forall_mem_cons.mpr ⟨lw_p12, List.forall_mem_cons.mpr ⟨lw_p13, List.forall_mem_cons.mpr ⟨lw_p14, List.forall_mem_cons.mpr ⟨lw_p15, fun _ h => absurd h List.not_mem_nil⟩⟩⟩⟩⟩⟩⟩⟩⟩⟩⟩⟩⟩⟩⟩⟩
theorem lw_p16 : lw_okq (⟨"FlowCurvesModel", "refuse", "(I)I"⟩, 15) := ⟨⟨by decide +kernel, by decide +kernel⟩, List.mem_of_getElem? (i := 605) (by decide +kernel), List.mem_of_getElem? (i := 665) (by decide +kernel), List.mem_of_getElem? (i := 666) (by decide +kernel)⟩
theorem lw_p17 : lw_okq (⟨"FlowCurvesModel", "fine", "(I)I"⟩, 15) := ⟨⟨by decide +kernel, by decide +kernel⟩, List.mem_of_getElem? (i := 605) (by decide +kernel), List.mem_of_getElem? (i := 669) (by decide +kernel), List.mem_of_getElem? (i := 670) (by decide +kernel)⟩
theorem lw_p18 : lw_okq (⟨"FlowCurvesModel", "settle", "(IJ)I"⟩, 15) := ⟨⟨by decide +kernel, by decide +kernel⟩, List.mem_of_getElem? (i := 605) (by decide +kernel), List.mem_of_getElem? (i := 691) (by decide +kernel), List.mem_of_getElem? (i := 692) (by decide +kernel)⟩
theorem lw_p19 : lw_okq (⟨"FlowCurvesModel", "comesRound", "(IJI)Z"⟩, 15) := ⟨⟨by decide +kernel, by decide +kernel⟩, List.mem_of_getElem? (i := 605) (by decide +kernel), List.mem_of_getElem? (i := 695) (by decide +kernel), List.mem_of_getElem? (i := 696) (by decide +kernel)⟩
theorem lw_p20 : lw_okq (⟨"FlowCurvesModel", "kindOf", "(I)I"⟩, 15) := ⟨⟨by decide +kernel, by decide +kernel⟩, List.mem_of_getElem? (i := 605) (by decide +kernel), List.mem_of_getElem? (i := 699) (by decide +kernel), List.mem_of_getElem? (i := 700) (by decide +kernel)⟩
theorem lw_p21 : lw_okq (⟨"FlowCurvesModel", "isCurve", "(I)Z"⟩, 15) := ⟨⟨by decide +kernel, by decide +kernel⟩, List.mem_of_getElem? (i := 605) (by decide +kernel), List.mem_of_getElem? (i := 712) (by decide +kernel), List.mem_of_getElem? (i := 713) (by decide +kernel)⟩
theorem lw_p22 : lw_okq (⟨"FlowCurvesModel", "together", "(II)I"⟩, 15) := ⟨⟨by decide +kernel, by decide +kernel⟩, List.mem_of_getElem? (i := 605) (by decide +kernel), List.mem_of_getElem? (i := 716) (by decide +kernel), List.mem_of_getElem? (i := 717) (by decide +kernel)⟩
theorem lw_p23 : lw_okq (⟨"FlowCurvesModel", "gainIn", "(II)J"⟩, 15) := ⟨⟨by decide +kernel, by decide +kernel⟩, List.mem_of_getElem? (i := 605) (by decide +kernel), List.mem_of_getElem? (i := 723) (by decide +kernel), List.mem_of_getElem? (i := 724) (by decide +kernel)⟩
theorem lw_p24 : lw_okq (⟨"FlowCurvesModel", "make", "(IIII)V"⟩, 15) := ⟨⟨by decide +kernel, by decide +kernel⟩, List.mem_of_getElem? (i := 605) (by decide +kernel), List.mem_of_getElem? (i := 727) (by decide +kernel), List.mem_of_getElem? (i := 728) (by decide +kernel)⟩
theorem lw_p25 : lw_okq (⟨"FlowCurvesModel", "value", "(IJ)J"⟩, 15) := ⟨⟨by decide +kernel, by decide +kernel⟩, List.mem_of_getElem? (i := 605) (by decide +kernel), List.mem_of_getElem? (i := 731) (by decide +kernel), List.mem_of_getElem? (i := 732) (by decide +kernel)⟩
theorem lw_p26 : lw_okq (⟨"FlowCurvesModel", "least", "(III)J"⟩, 15) := ⟨⟨by decide +kernel, by decide +kernel⟩, List.mem_of_getElem? (i := 605) (by decide +kernel), List.mem_of_getElem? (i := 735) (by decide +kernel), List.mem_of_getElem? (i := 736) (by decide +kernel)⟩
theorem lw_p27 : lw_okq (⟨"FlowCurvesModel", "most", "(IIII)J"⟩, 15) := ⟨⟨by decide +kernel, by decide +kernel⟩, List.mem_of_getElem? (i := 605) (by decide +kernel), List.mem_of_getElem? (i := 739) (by decide +kernel), List.mem_of_getElem? (i := 740) (by decide +kernel)⟩
theorem lw_p28 : lw_okq (⟨"FlowCurvesModel", "none", "(I)J"⟩, 15) := ⟨⟨by decide +kernel, by decide +kernel⟩, List.mem_of_getElem? (i := 605) (by decide +kernel), List.mem_of_getElem? (i := 761) (by decide +kernel), List.mem_of_getElem? (i := 762) (by decide +kernel)⟩
theorem lw_p29 : lw_okq (⟨"FlowCurvesModel", "fineLong", "(J)J"⟩, 15) := ⟨⟨by decide +kernel, by decide +kernel⟩, List.mem_of_getElem? (i := 605) (by decide +kernel), List.mem_of_getElem? (i := 766) (by decide +kernel), List.mem_of_getElem? (i := 767) (by decide +kernel)⟩
theorem lw_p30 : lw_okq (⟨"FlowCurvesModel", "isClosed", "(I)Z"⟩, 15) := ⟨⟨by decide +kernel, by decide +kernel⟩, List.mem_of_getElem? (i := 605) (by decide +kernel), List.mem_of_getElem? (i := 775) (by decide +kernel), List.mem_of_getElem? (i := 776) (by decide +kernel)⟩
theorem lw_p31 : lw_okq (⟨"FlowCurvesModel", "latest", "(II)I"⟩, 15) := ⟨⟨by decide +kernel, by decide +kernel⟩, List.mem_of_getElem? (i := 605) (by decide +kernel), List.mem_of_getElem? (i := 787) (by decide +kernel), List.mem_of_getElem? (i := 788) (by decide +kernel)⟩
def lw_privs_2 : List (MethodName × Nat) := [(⟨"FlowCurvesModel", "refuse", "(I)I"⟩, 15), (⟨"FlowCurvesModel", "fine", "(I)I"⟩, 15), (⟨"FlowCurvesModel", "settle", "(IJ)I"⟩, 15), (⟨"FlowCurvesModel", "comesRound", "(IJI)Z"⟩, 15), (⟨"FlowCurvesModel", "kindOf", "(I)I"⟩, 15), (⟨"FlowCurvesModel", "isCurve", "(I)Z"⟩, 15), (⟨"FlowCurvesModel", "together", "(II)I"⟩, 15), (⟨"FlowCurvesModel", "gainIn", "(II)J"⟩, 15), (⟨"FlowCurvesModel", "make", "(IIII)V"⟩, 15), (⟨"FlowCurvesModel", "value", "(IJ)J"⟩, 15), (⟨"FlowCurvesModel", "least", "(III)J"⟩, 15), (⟨"FlowCurvesModel", "most", "(IIII)J"⟩, 15), (⟨"FlowCurvesModel", "none", "(I)J"⟩, 15), (⟨"FlowCurvesModel", "fineLong", "(J)J"⟩, 15), (⟨"FlowCurvesModel", "isClosed", "(I)Z"⟩, 15), (⟨"FlowCurvesModel", "latest", "(II)I"⟩, 15)]
theorem lw_r2 : ∀ q ∈ lw_privs_2, lw_okq q := List.forall_mem_cons.mpr ⟨lw_p16, List.forall_mem_cons.mpr ⟨lw_p17, List.forall_mem_cons.mpr ⟨lw_p18, List.forall_mem_cons.mpr ⟨lw_p19, List.forall_mem_cons.mpr ⟨lw_p20, List.forall_mem_cons.mpr ⟨lw_p21, List.forall_mem_cons.mpr ⟨lw_p22, List.forall_mem_cons.mpr ⟨lw_p23, List.forall_mem_cons.mpr ⟨lw_p24, List.forall_mem_cons.mpr ⟨lw_p25, List.forall_mem_cons.mpr ⟨lw_p26, List.forall_mem_cons.mpr ⟨lw_p27, List.forall_mem_cons.mpr ⟨lw_p28, List.forall_mem_cons.mpr ⟨lw_p29, List.forall_mem_cons.mpr ⟨lw_p30, List.forall_mem_cons.mpr ⟨lw_p31, fun _ h => absurd h List.not_mem_nil⟩⟩⟩⟩⟩⟩⟩⟩⟩⟩⟩⟩⟩⟩⟩⟩
theorem lw_p32 : lw_okq (⟨"FlowCurvesModel", "spanOf", "(IJ)J"⟩, 15) := ⟨⟨by decide +kernel, by decide +kernel⟩, List.mem_of_getElem? (i := 605) (by decide +kernel), List.mem_of_getElem? (i := 799) (by decide +kernel), List.mem_of_getElem? (i := 800) (by decide +kernel)⟩
theorem lw_p33 : lw_okq (⟨"FlowCurvesModel", "came", "(I)J"⟩, 15) := ⟨⟨by decide +kernel, by decide +kernel⟩, List.mem_of_getElem? (i := 605) (by decide +kernel), List.mem_of_getElem? (i := 833) (by decide +kernel), List.mem_of_getElem? (i := 834) (by decide +kernel)⟩
theorem lw_p34 : lw_okq (⟨"FlowCurvesModel", "served", "(I)J"⟩, 15) := ⟨⟨by decide +kernel, by decide +kernel⟩, List.mem_of_getElem? (i := 605) (by decide +kernel), List.mem_of_getElem? (i := 837) (by decide +kernel), List.mem_of_getElem? (i := 838) (by decide +kernel)⟩
theorem lw_p35 : lw_okq (⟨"FlowCurvesModel", "lateAt", "(I)I"⟩, 15) := ⟨⟨by decide +kernel, by decide +kernel⟩, List.mem_of_getElem? (i := 605) (by decide +kernel), List.mem_of_getElem? (i := 845) (by decide +kernel), List.mem_of_getElem? (i := 846) (by decide +kernel)⟩
def lw_privs_3 : List (MethodName × Nat) := [(⟨"FlowCurvesModel", "spanOf", "(IJ)J"⟩, 15), (⟨"FlowCurvesModel", "came", "(I)J"⟩, 15), (⟨"FlowCurvesModel", "served", "(I)J"⟩, 15), (⟨"FlowCurvesModel", "lateAt", "(I)I"⟩, 15)]
theorem lw_r3 : ∀ q ∈ lw_privs_3, lw_okq q := List.forall_mem_cons.mpr ⟨lw_p32, List.forall_mem_cons.mpr ⟨lw_p33, List.forall_mem_cons.mpr ⟨lw_p34, List.forall_mem_cons.mpr ⟨lw_p35, fun _ h => absurd h List.not_mem_nil⟩⟩⟩⟩
def lw_privs : List (MethodName × Nat) := lw_privs_1 ++ (lw_privs_2 ++ (lw_privs_3))
def lw_tbl : List Cond := k2_sels lw_privs ++ tables_1
theorem lw_privs_ok : ∀ q ∈ lw_privs, lw_okq q := by
  show ∀ q ∈ lw_privs_1 ++ (lw_privs_2 ++ (lw_privs_3)), lw_okq q
  exact List.forall_mem_append.mpr ⟨lw_r1, List.forall_mem_append.mpr ⟨lw_r2, lw_r3⟩⟩
def RX0 : String := "FlowCurves$Burst"
def TX0 : u_T := fun k => match k with
  | 0 => ("FlowCurves$Curve", "start", "I", true)
  | 1 => ("FlowCurves$Curve", "step", "I", true)
  | 2 => ("FlowCurves$Curve", "gain", "I", true)
  | 3 => ("FlowCurves$Curve", "amounts", "[J", true)
  | _ => ("FlowCurves$Burst", "lead", "J", true)
def tyX0 : Nat → FieldType := fun k => match k with
  | 0 => .int
  | 1 => .int
  | 2 => .int
  | 3 => .array .long
  | _ => .long
abbrev wsX00 : List Cond := u_ws RX0 TX0 5
theorem nmX0 : ∀ a, a < 5 → ∀ b, b < 5 → a ≠ b → (TX0 a).2.1 ≠ (TX0 b).2.1 := by decide +kernel
theorem tyX0_ok : ∀ k, k < 5 → parseFieldDescriptor (TX0 k).2.2.1 = some (tyX0 k) := by decide +kernel
abbrev cX0_init : ByteArray := prog_2_method_1_code
def yX0_init : MethodName := ⟨RX0, "<init>", "(III[JJ)V"⟩
abbrev cX0_kind : ByteArray := prog_2_method_2_code
def yX0_kind : MethodName := ⟨RX0, "kind", "()I"⟩
abbrev cX0_asked : ByteArray := prog_2_method_3_code
def yX0_asked : MethodName := ⟨RX0, "asked", "(ILFlowCurves$Tally;)J"⟩
def RX1 : String := "FlowCurves$Curve"
def TX1 : u_T := fun k => match k with
  | 0 => ("FlowCurves$Curve", "start", "I", true)
  | 1 => ("FlowCurves$Curve", "step", "I", true)
  | 2 => ("FlowCurves$Curve", "gain", "I", true)
  | _ => ("FlowCurves$Curve", "amounts", "[J", true)
def tyX1 : Nat → FieldType := fun k => match k with
  | 0 => .int
  | 1 => .int
  | 2 => .int
  | _ => .array .long
abbrev wsX10 : List Cond := u_ws RX1 TX1 4
theorem nmX1 : ∀ a, a < 4 → ∀ b, b < 4 → a ≠ b → (TX1 a).2.1 ≠ (TX1 b).2.1 := by decide +kernel
theorem tyX1_ok : ∀ k, k < 4 → parseFieldDescriptor (TX1 k).2.2.1 = some (tyX1 k) := by decide +kernel
abbrev cX1_init : ByteArray := prog_3_method_1_code
def yX1_init : MethodName := ⟨RX1, "<init>", "(III[J)V"⟩
abbrev cX1_kind : ByteArray := prog_3_method_2_code
def yX1_kind : MethodName := ⟨RX1, "kind", "()I"⟩
abbrev cX1_asked : ByteArray := prog_3_method_3_code
def yX1_asked : MethodName := ⟨RX1, "asked", "(ILFlowCurves$Tally;)J"⟩
abbrev cX1_amount : ByteArray := prog_3_method_4_code
def yX1_amount : MethodName := ⟨RX1, "amount", "(I)J"⟩
abbrev cX1_gainIn : ByteArray := prog_3_method_5_code
def yX1_gainIn : MethodName := ⟨RX1, "gainIn", "(I)J"⟩
abbrev cX1_sharedByGainAndStep : ByteArray := prog_3_method_6_code
def yX1_sharedByGainAndStep : MethodName := ⟨RX1, "sharedByGainAndStep", "()I"⟩
abbrev cX1_firstReaching : ByteArray := prog_3_method_7_code
def yX1_firstReaching : MethodName := ⟨RX1, "firstReaching", "(JI)I"⟩
abbrev cX1_isClosed : ByteArray := prog_3_method_8_code
def yX1_isClosed : MethodName := ⟨RX1, "isClosed", "()Z"⟩
def RX2 : String := "FlowCurves$Late"
def TX2 : u_T := fun k => match k with
  | 0 => ("FlowCurves$Curve", "start", "I", true)
  | 1 => ("FlowCurves$Curve", "step", "I", true)
  | 2 => ("FlowCurves$Curve", "gain", "I", true)
  | _ => ("FlowCurves$Curve", "amounts", "[J", true)
def tyX2 : Nat → FieldType := fun k => match k with
  | 0 => .int
  | 1 => .int
  | 2 => .int
  | _ => .array .long
abbrev wsX20 : List Cond := u_ws RX2 TX2 4
theorem nmX2 : ∀ a, a < 4 → ∀ b, b < 4 → a ≠ b → (TX2 a).2.1 ≠ (TX2 b).2.1 := by decide +kernel
theorem tyX2_ok : ∀ k, k < 4 → parseFieldDescriptor (TX2 k).2.2.1 = some (tyX2 k) := by decide +kernel
abbrev cX2_init : ByteArray := prog_4_method_1_code
def yX2_init : MethodName := ⟨RX2, "<init>", "(III[J)V"⟩
abbrev cX2_kind : ByteArray := prog_4_method_2_code
def yX2_kind : MethodName := ⟨RX2, "kind", "()I"⟩
abbrev cX2_asked : ByteArray := prog_4_method_3_code
def yX2_asked : MethodName := ⟨RX2, "asked", "(ILFlowCurves$Tally;)J"⟩
def RX3 : String := "FlowCurves$Maker"
def TX3 : u_T := fun k => match k with
  | 0 => ("FlowCurves$Maker", "made", "[J", true)
  | 1 => ("FlowCurves$Maker", "one", "[J", true)
  | _ => ("FlowCurves$Maker", "other", "[J", true)
def tyX3 : Nat → FieldType := fun k => match k with
  | 0 => .array .long
  | 1 => .array .long
  | _ => .array .long
abbrev wsX30 : List Cond := u_ws RX3 TX3 3
theorem nmX3 : ∀ a, a < 3 → ∀ b, b < 3 → a ≠ b → (TX3 a).2.1 ≠ (TX3 b).2.1 := by decide +kernel
theorem tyX3_ok : ∀ k, k < 3 → parseFieldDescriptor (TX3 k).2.2.1 = some (tyX3 k) := by decide +kernel
abbrev cX3_init : ByteArray := prog_5_method_1_code
def yX3_init : MethodName := ⟨RX3, "<init>", "()V"⟩
abbrev cX3_fromRow : ByteArray := prog_5_method_2_code
def yX3_fromRow : MethodName := ⟨RX3, "fromRow", "([JIII)LFlowCurves$Curve;"⟩
abbrev cX3_straight : ByteArray := prog_5_method_3_code
def yX3_straight : MethodName := ⟨RX3, "straight", "(I)LFlowCurves$Curve;"⟩
abbrev cX3_multiplied : ByteArray := prog_5_method_4_code
def yX3_multiplied : MethodName := ⟨RX3, "multiplied", "(LFlowCurves$Curve;I)LFlowCurves$Curve;"⟩
abbrev cX3_delayed : ByteArray := prog_5_method_5_code
def yX3_delayed : MethodName := ⟨RX3, "delayed", "(LFlowCurves$Curve;I)LFlowCurves$Curve;"⟩
abbrev cX3_fromBoth : ByteArray := prog_5_method_6_code
def yX3_fromBoth : MethodName := ⟨RX3, "fromBoth", "(ILFlowCurves$Curve;LFlowCurves$Curve;I)LFlowCurves$Curve;"⟩
abbrev cX3_gainOf : ByteArray := prog_5_method_7_code
def yX3_gainOf : MethodName := ⟨RX3, "gainOf", "(IJJ)J"⟩
abbrev cX3_spread : ByteArray := prog_5_method_8_code
def yX3_spread : MethodName := ⟨RX3, "spread", "(LFlowCurves$Curve;[J)V"⟩
abbrev cX3_laySideBySide : ByteArray := prog_5_method_9_code
def yX3_laySideBySide : MethodName := ⟨RX3, "laySideBySide", "(II)V"⟩
abbrev cX3_layRest : ByteArray := prog_5_method_10_code
def yX3_layRest : MethodName := ⟨RX3, "layRest", "(I)V"⟩
abbrev cX3_layBoth : ByteArray := prog_5_method_11_code
def yX3_layBoth : MethodName := ⟨RX3, "layBoth", "(III)V"⟩
abbrev cX3_leastTogether : ByteArray := prog_5_method_12_code
def yX3_leastTogether : MethodName := ⟨RX3, "leastTogether", "(III)J"⟩
abbrev cX3_layOff : ByteArray := prog_5_method_13_code
def yX3_layOff : MethodName := ⟨RX3, "layOff", "(II)V"⟩
abbrev cX3_comesRound : ByteArray := prog_5_method_14_code
def yX3_comesRound : MethodName := ⟨RX3, "comesRound", "(IIJ)Z"⟩
abbrev cX3_settled : ByteArray := prog_5_method_15_code
def yX3_settled : MethodName := ⟨RX3, "settled", "(II)LFlowCurves$Curve;"⟩
abbrev cX3_leastStep : ByteArray := prog_5_method_16_code
def yX3_leastStep : MethodName := ⟨RX3, "leastStep", "(II)I"⟩
abbrev cX3_alsoComesRoundBy : ByteArray := prog_5_method_17_code
def yX3_alsoComesRoundBy : MethodName := ⟨RX3, "alsoComesRoundBy", "(III)Z"⟩
abbrev cX3_ofItsKind : ByteArray := prog_5_method_18_code
def yX3_ofItsKind : MethodName := ⟨RX3, "ofItsKind", "(III[J)LFlowCurves$Curve;"⟩
def RX4 : String := "FlowCurves$Pairs"
def TX4 : u_T := fun k => match k with
  | _ => ("", "", "", false)
def tyX4 : Nat → FieldType := fun k => match k with
  | _ => .int
abbrev wsX40 : List Cond := u_ws RX4 TX4 0
theorem nmX4 : ∀ a, a < 0 → ∀ b, b < 0 → a ≠ b → (TX4 a).2.1 ≠ (TX4 b).2.1 := by decide +kernel
theorem tyX4_ok : ∀ k, k < 0 → parseFieldDescriptor (TX4 k).2.2.1 = some (tyX4 k) := by decide +kernel
abbrev cX4_commonStep : ByteArray := prog_6_method_2_code
def yX4_commonStep : MethodName := ⟨RX4, "commonStep", "(LFlowCurves$Curve;LFlowCurves$Curve;)I"⟩
abbrev cX4_outruns : ByteArray := prog_6_method_3_code
def yX4_outruns : MethodName := ⟨RX4, "outruns", "(LFlowCurves$Curve;LFlowCurves$Curve;I)Z"⟩
abbrev cX4_settledSpan : ByteArray := prog_6_method_4_code
def yX4_settledSpan : MethodName := ⟨RX4, "settledSpan", "(LFlowCurves$Curve;LFlowCurves$Curve;I)I"⟩
abbrev cX4_firstUnlike : ByteArray := prog_6_method_5_code
def yX4_firstUnlike : MethodName := ⟨RX4, "firstUnlike", "(LFlowCurves$Curve;LFlowCurves$Curve;I)I"⟩
abbrev cX4_greatestLead : ByteArray := prog_6_method_6_code
def yX4_greatestLead : MethodName := ⟨RX4, "greatestLead", "(LFlowCurves$Curve;LFlowCurves$Curve;I)J"⟩
abbrev cX4_longestWait : ByteArray := prog_6_method_7_code
def yX4_longestWait : MethodName := ⟨RX4, "longestWait", "(LFlowCurves$Curve;LFlowCurves$Curve;I)I"⟩
def RX5 : String := "FlowCurves$Ray"
def TX5 : u_T := fun k => match k with
  | 0 => ("FlowCurves$Curve", "start", "I", true)
  | 1 => ("FlowCurves$Curve", "step", "I", true)
  | 2 => ("FlowCurves$Curve", "gain", "I", true)
  | _ => ("FlowCurves$Curve", "amounts", "[J", true)
def tyX5 : Nat → FieldType := fun k => match k with
  | 0 => .int
  | 1 => .int
  | 2 => .int
  | _ => .array .long
abbrev wsX50 : List Cond := u_ws RX5 TX5 4
theorem nmX5 : ∀ a, a < 4 → ∀ b, b < 4 → a ≠ b → (TX5 a).2.1 ≠ (TX5 b).2.1 := by decide +kernel
theorem tyX5_ok : ∀ k, k < 4 → parseFieldDescriptor (TX5 k).2.2.1 = some (tyX5 k) := by decide +kernel
abbrev cX5_init : ByteArray := prog_7_method_1_code
def yX5_init : MethodName := ⟨RX5, "<init>", "(III[J)V"⟩
abbrev cX5_kind : ByteArray := prog_7_method_2_code
def yX5_kind : MethodName := ⟨RX5, "kind", "()I"⟩
abbrev cX5_asked : ByteArray := prog_7_method_3_code
def yX5_asked : MethodName := ⟨RX5, "asked", "(ILFlowCurves$Tally;)J"⟩
def RX6 : String := "FlowCurves$Run"
def TX6 : u_T := fun k => match k with
  | 0 => ("FlowCurves$Run", "came", "[J", true)
  | _ => ("FlowCurves$Run", "steps", "I", false)
def tyX6 : Nat → FieldType := fun k => match k with
  | 0 => .array .long
  | _ => .int
abbrev wsX60 : List Cond := u_ws RX6 TX6 2
theorem nmX6 : ∀ a, a < 2 → ∀ b, b < 2 → a ≠ b → (TX6 a).2.1 ≠ (TX6 b).2.1 := by decide +kernel
theorem tyX6_ok : ∀ k, k < 2 → parseFieldDescriptor (TX6 k).2.2.1 = some (tyX6 k) := by decide +kernel
abbrev cX6_init : ByteArray := prog_8_method_1_code
def yX6_init : MethodName := ⟨RX6, "<init>", "()V"⟩
abbrev cX6_isFull : ByteArray := prog_8_method_2_code
def yX6_isFull : MethodName := ⟨RX6, "isFull", "()Z"⟩
abbrev cX6_add : ByteArray := prog_8_method_3_code
def yX6_add : MethodName := ⟨RX6, "add", "(J)V"⟩
abbrev cX6_hardestStep : ByteArray := prog_8_method_4_code
def yX6_hardestStep : MethodName := ⟨RX6, "hardestStep", "(LFlowCurves$Curve;I)J"⟩
abbrev cX6_canFollow : ByteArray := prog_8_method_5_code
def yX6_canFollow : MethodName := ⟨RX6, "canFollow", "(LFlowCurves$Curve;I)Z"⟩
abbrev cX6_follow : ByteArray := prog_8_method_6_code
def yX6_follow : MethodName := ⟨RX6, "follow", "(LFlowCurves$Curve;I)V"⟩
abbrev cX6_arrived : ByteArray := prog_8_method_7_code
def yX6_arrived : MethodName := ⟨RX6, "arrived", "(I)J"⟩
abbrev cX6_passed : ByteArray := prog_8_method_8_code
def yX6_passed : MethodName := ⟨RX6, "passed", "(LFlowCurves$Curve;I)J"⟩
abbrev cX6_held : ByteArray := prog_8_method_9_code
def yX6_held : MethodName := ⟨RX6, "held", "(LFlowCurves$Curve;I)J"⟩
abbrev cX6_lateness : ByteArray := prog_8_method_10_code
def yX6_lateness : MethodName := ⟨RX6, "lateness", "(LFlowCurves$Curve;I)I"⟩
abbrev cX6_greatestHeld : ByteArray := prog_8_method_11_code
def yX6_greatestHeld : MethodName := ⟨RX6, "greatestHeld", "(LFlowCurves$Curve;)J"⟩
abbrev cX6_greatestLateness : ByteArray := prog_8_method_12_code
def yX6_greatestLateness : MethodName := ⟨RX6, "greatestLateness", "(LFlowCurves$Curve;)I"⟩
abbrev cX6_staysWithin : ByteArray := prog_8_method_13_code
def yX6_staysWithin : MethodName := ⟨RX6, "staysWithin", "(LFlowCurves$Curve;)Z"⟩
def RX7 : String := "FlowCurves$Stair"
def TX7 : u_T := fun k => match k with
  | 0 => ("FlowCurves$Curve", "start", "I", true)
  | 1 => ("FlowCurves$Curve", "step", "I", true)
  | 2 => ("FlowCurves$Curve", "gain", "I", true)
  | _ => ("FlowCurves$Curve", "amounts", "[J", true)
def tyX7 : Nat → FieldType := fun k => match k with
  | 0 => .int
  | 1 => .int
  | 2 => .int
  | _ => .array .long
abbrev wsX70 : List Cond := u_ws RX7 TX7 4
theorem nmX7 : ∀ a, a < 4 → ∀ b, b < 4 → a ≠ b → (TX7 a).2.1 ≠ (TX7 b).2.1 := by decide +kernel
theorem tyX7_ok : ∀ k, k < 4 → parseFieldDescriptor (TX7 k).2.2.1 = some (tyX7 k) := by decide +kernel
abbrev cX7_init : ByteArray := prog_9_method_1_code
def yX7_init : MethodName := ⟨RX7, "<init>", "(III[J)V"⟩
abbrev cX7_kind : ByteArray := prog_9_method_2_code
def yX7_kind : MethodName := ⟨RX7, "kind", "()I"⟩
abbrev cX7_asked : ByteArray := prog_9_method_3_code
def yX7_asked : MethodName := ⟨RX7, "asked", "(ILFlowCurves$Tally;)J"⟩
def RX8 : String := "FlowCurves$Tally"
def TX8 : u_T := fun k => match k with
  | _ => ("FlowCurves$Tally", "marks", "[I", true)
def tyX8 : Nat → FieldType := fun k => match k with
  | _ => .array .int
abbrev wsX80 : List Cond := u_ws RX8 TX8 1
theorem nmX8 : ∀ a, a < 1 → ∀ b, b < 1 → a ≠ b → (TX8 a).2.1 ≠ (TX8 b).2.1 := by decide +kernel
theorem tyX8_ok : ∀ k, k < 1 → parseFieldDescriptor (TX8 k).2.2.1 = some (tyX8 k) := by decide +kernel
abbrev cX8_init : ByteArray := prog_10_method_1_code
def yX8_init : MethodName := ⟨RX8, "<init>", "()V"⟩
abbrev cX8_mark : ByteArray := prog_10_method_2_code
def yX8_mark : MethodName := ⟨RX8, "mark", "(I)V"⟩
abbrev cX8_marks : ByteArray := prog_10_method_3_code
def yX8_marks : MethodName := ⟨RX8, "marks", "(I)I"⟩
def RX9 : String := "FlowCurves"
def TX9 : u_T := fun k => match k with
  | 0 => ("FlowCurves", "curves", "[LFlowCurves$Curve;", true)
  | 1 => ("FlowCurves", "curveCount", "I", false)
  | 2 => ("FlowCurves", "mayUndo", "Z", false)
  | 3 => ("FlowCurves", "row", "[J", true)
  | 4 => ("FlowCurves", "rowCount", "I", false)
  | 5 => ("FlowCurves", "run", "LFlowCurves$Run;", true)
  | 6 => ("FlowCurves", "server", "I", false)
  | 7 => ("FlowCurves", "tally", "LFlowCurves$Tally;", true)
  | 8 => ("FlowCurves", "maker", "LFlowCurves$Maker;", true)
  | _ => ("FlowCurves", "latest", "I", false)
def tyX9 : Nat → FieldType := fun k => match k with
  | 0 => .array (.object "FlowCurves$Curve")
  | 1 => .int
  | 2 => .boolean
  | 3 => .array .long
  | 4 => .int
  | 5 => .object "FlowCurves$Run"
  | 6 => .int
  | 7 => .object "FlowCurves$Tally"
  | 8 => .object "FlowCurves$Maker"
  | _ => .int
abbrev wsX90 : List Cond := u_ws RX9 TX9 10
theorem nmX9 : ∀ a, a < 10 → ∀ b, b < 10 → a ≠ b → (TX9 a).2.1 ≠ (TX9 b).2.1 := by decide +kernel
theorem tyX9_ok : ∀ k, k < 10 → parseFieldDescriptor (TX9 k).2.2.1 = some (tyX9 k) := by decide +kernel
abbrev cX9_init : ByteArray := prog_1_method_1_code
def yX9_init : MethodName := ⟨RX9, "<init>", "()V"⟩
abbrev cX9_put : ByteArray := prog_1_method_2_code
def yX9_put : MethodName := ⟨RX9, "put", "(J)I"⟩
abbrev cX9_draw : ByteArray := prog_1_method_3_code
def yX9_draw : MethodName := ⟨RX9, "draw", "(III)I"⟩
abbrev cX9_drop : ByteArray := prog_1_method_4_code
def yX9_drop : MethodName := ⟨RX9, "drop", "()I"⟩
abbrev cX9_curve : ByteArray := prog_1_method_5_code
def yX9_curve : MethodName := ⟨RX9, "curve", "(II)I"⟩
abbrev cX9_ray : ByteArray := prog_1_method_6_code
def yX9_ray : MethodName := ⟨RX9, "ray", "(I)I"⟩
abbrev cX9_of : ByteArray := prog_1_method_7_code
def yX9_of : MethodName := ⟨RX9, "of", "(III)I"⟩
abbrev cX9_times : ByteArray := prog_1_method_8_code
def yX9_times : MethodName := ⟨RX9, "times", "(II)I"⟩
abbrev cX9_shift : ByteArray := prog_1_method_9_code
def yX9_shift : MethodName := ⟨RX9, "shift", "(II)I"⟩
abbrev cX9_undo : ByteArray := prog_1_method_10_code
def yX9_undo : MethodName := ⟨RX9, "undo", "()I"⟩
abbrev cX9_at : ByteArray := prog_1_method_11_code
def yX9_at : MethodName := ⟨RX9, "at", "(II)J"⟩
abbrev cX9_about : ByteArray := prog_1_method_12_code
def yX9_about : MethodName := ⟨RX9, "about", "(II)I"⟩
abbrev cX9_rate : ByteArray := prog_1_method_13_code
def yX9_rate : MethodName := ⟨RX9, "rate", "(II)I"⟩
abbrev cX9_unlike : ByteArray := prog_1_method_14_code
def yX9_unlike : MethodName := ⟨RX9, "unlike", "(II)I"⟩
abbrev cX9_below : ByteArray := prog_1_method_15_code
def yX9_below : MethodName := ⟨RX9, "below", "(II)I"⟩
abbrev cX9_first : ByteArray := prog_1_method_16_code
def yX9_first : MethodName := ⟨RX9, "first", "(IJ)I"⟩
abbrev cX9_heap : ByteArray := prog_1_method_17_code
def yX9_heap : MethodName := ⟨RX9, "heap", "(II)J"⟩
abbrev cX9_wait : ByteArray := prog_1_method_18_code
def yX9_wait : MethodName := ⟨RX9, "wait", "(II)I"⟩
abbrev cX9_come : ByteArray := prog_1_method_19_code
def yX9_come : MethodName := ⟨RX9, "come", "(I)I"⟩
abbrev cX9_hardest : ByteArray := prog_1_method_20_code
def yX9_hardest : MethodName := ⟨RX9, "hardest", "(II)I"⟩
abbrev cX9_stop : ByteArray := prog_1_method_21_code
def yX9_stop : MethodName := ⟨RX9, "stop", "()I"⟩
abbrev cX9_serve : ByteArray := prog_1_method_22_code
def yX9_serve : MethodName := ⟨RX9, "serve", "(I)I"⟩
abbrev cX9_moved : ByteArray := prog_1_method_23_code
def yX9_moved : MethodName := ⟨RX9, "moved", "(II)J"⟩
abbrev cX9_late : ByteArray := prog_1_method_24_code
def yX9_late : MethodName := ⟨RX9, "late", "(I)I"⟩
abbrev cX9_mostHeld : ByteArray := prog_1_method_25_code
def yX9_mostHeld : MethodName := ⟨RX9, "mostHeld", "()J"⟩
abbrev cX9_mostLate : ByteArray := prog_1_method_26_code
def yX9_mostLate : MethodName := ⟨RX9, "mostLate", "()I"⟩
abbrev cX9_keeps : ByteArray := prog_1_method_27_code
def yX9_keeps : MethodName := ⟨RX9, "keeps", "(I)I"⟩
abbrev cX9_count : ByteArray := prog_1_method_28_code
def yX9_count : MethodName := ⟨RX9, "count", "(I)I"⟩
abbrev cX9_trace : ByteArray := prog_1_method_29_code
def yX9_trace : MethodName := ⟨RX9, "trace", "(I)I"⟩
abbrev cX9_status : ByteArray := prog_1_method_30_code
def yX9_status : MethodName := ⟨RX9, "status", "()I"⟩
abbrev cX9_clear : ByteArray := prog_1_method_31_code
def yX9_clear : MethodName := ⟨RX9, "clear", "()I"⟩
abbrev cX9_refused : ByteArray := prog_1_method_32_code
def yX9_refused : MethodName := ⟨RX9, "refused", "(I)I"⟩
abbrev cX9_refusedAmount : ByteArray := prog_1_method_33_code
def yX9_refusedAmount : MethodName := ⟨RX9, "refusedAmount", "(I)J"⟩
abbrev cX9_granted : ByteArray := prog_1_method_34_code
def yX9_granted : MethodName := ⟨RX9, "granted", "(I)I"⟩
abbrev cX9_grantedAmount : ByteArray := prog_1_method_35_code
def yX9_grantedAmount : MethodName := ⟨RX9, "grantedAmount", "(J)J"⟩
abbrev cX9_curveNumbered : ByteArray := prog_1_method_36_code
def yX9_curveNumbered : MethodName := ⟨RX9, "curveNumbered", "(I)LFlowCurves$Curve;"⟩
abbrev cX9_kept : ByteArray := prog_1_method_37_code
def yX9_kept : MethodName := ⟨RX9, "kept", "(LFlowCurves$Curve;)I"⟩
abbrev cX9_rowComesRound : ByteArray := prog_1_method_38_code
def yX9_rowComesRound : MethodName := ⟨RX9, "rowComesRound", "(II)Z"⟩
def RX10 : String := "FlowCurvesModel"
def TX10 : u_T := fun k => match k with
  | 0 => ("FlowCurvesModel", "curves", "I", false)
  | 1 => ("FlowCurvesModel", "start", "[I", true)
  | 2 => ("FlowCurvesModel", "step", "[I", true)
  | 3 => ("FlowCurvesModel", "gain", "[J", true)
  | 4 => ("FlowCurvesModel", "kind", "[I", true)
  | 5 => ("FlowCurvesModel", "amount", "[J", true)
  | 6 => ("FlowCurvesModel", "mayUndo", "Z", false)
  | 7 => ("FlowCurvesModel", "row", "[J", true)
  | 8 => ("FlowCurvesModel", "rowSize", "I", false)
  | 9 => ("FlowCurvesModel", "come", "[J", true)
  | 10 => ("FlowCurvesModel", "steps", "I", false)
  | 11 => ("FlowCurvesModel", "server", "I", false)
  | 12 => ("FlowCurvesModel", "asked", "[I", true)
  | 13 => ("FlowCurvesModel", "status", "I", false)
  | _ => ("FlowCurvesModel", "made", "[J", true)
def tyX10 : Nat → FieldType := fun k => match k with
  | 0 => .int
  | 1 => .array .int
  | 2 => .array .int
  | 3 => .array .long
  | 4 => .array .int
  | 5 => .array .long
  | 6 => .boolean
  | 7 => .array .long
  | 8 => .int
  | 9 => .array .long
  | 10 => .int
  | 11 => .int
  | 12 => .array .int
  | 13 => .int
  | _ => .array .long
abbrev wsX100 : List Cond := u_ws RX10 TX10 15
theorem nmX10 : ∀ a, a < 15 → ∀ b, b < 15 → a ≠ b → (TX10 a).2.1 ≠ (TX10 b).2.1 := by decide +kernel
theorem tyX10_ok : ∀ k, k < 15 → parseFieldDescriptor (TX10 k).2.2.1 = some (tyX10 k) := by decide +kernel
abbrev cX10_init : ByteArray := prog_12_method_1_code
def yX10_init : MethodName := ⟨RX10, "<init>", "()V"⟩
abbrev cX10_in : ByteArray := prog_12_method_2_code
def yX10_in : MethodName := ⟨RX10, "in", "(JJJ)Z"⟩
abbrev cX10_refuse : ByteArray := prog_12_method_3_code
def yX10_refuse : MethodName := ⟨RX10, "refuse", "(I)I"⟩
abbrev cX10_fine : ByteArray := prog_12_method_4_code
def yX10_fine : MethodName := ⟨RX10, "fine", "(I)I"⟩
abbrev cX10_fineLong : ByteArray := prog_12_method_5_code
def yX10_fineLong : MethodName := ⟨RX10, "fineLong", "(J)J"⟩
abbrev cX10_none : ByteArray := prog_12_method_6_code
def yX10_none : MethodName := ⟨RX10, "none", "(I)J"⟩
abbrev cX10_isCurve : ByteArray := prog_12_method_7_code
def yX10_isCurve : MethodName := ⟨RX10, "isCurve", "(I)Z"⟩
abbrev cX10_value : ByteArray := prog_12_method_8_code
def yX10_value : MethodName := ⟨RX10, "value", "(IJ)J"⟩
abbrev cX10_comesRound : ByteArray := prog_12_method_9_code
def yX10_comesRound : MethodName := ⟨RX10, "comesRound", "(IJI)Z"⟩
abbrev cX10_kindOf : ByteArray := prog_12_method_10_code
def yX10_kindOf : MethodName := ⟨RX10, "kindOf", "(I)I"⟩
abbrev cX10_settle : ByteArray := prog_12_method_11_code
def yX10_settle : MethodName := ⟨RX10, "settle", "(IJ)I"⟩
abbrev cX10_put : ByteArray := prog_12_method_12_code
def yX10_put : MethodName := ⟨RX10, "put", "(J)I"⟩
abbrev cX10_draw : ByteArray := prog_12_method_13_code
def yX10_draw : MethodName := ⟨RX10, "draw", "(III)I"⟩
abbrev cX10_drop : ByteArray := prog_12_method_14_code
def yX10_drop : MethodName := ⟨RX10, "drop", "()I"⟩
abbrev cX10_curve : ByteArray := prog_12_method_15_code
def yX10_curve : MethodName := ⟨RX10, "curve", "(II)I"⟩
abbrev cX10_ray : ByteArray := prog_12_method_16_code
def yX10_ray : MethodName := ⟨RX10, "ray", "(I)I"⟩
abbrev cX10_divisor : ByteArray := prog_12_method_17_code
def yX10_divisor : MethodName := ⟨RX10, "divisor", "(II)I"⟩
abbrev cX10_together : ByteArray := prog_12_method_18_code
def yX10_together : MethodName := ⟨RX10, "together", "(II)I"⟩
abbrev cX10_gainIn : ByteArray := prog_12_method_19_code
def yX10_gainIn : MethodName := ⟨RX10, "gainIn", "(II)J"⟩
abbrev cX10_least : ByteArray := prog_12_method_20_code
def yX10_least : MethodName := ⟨RX10, "least", "(III)J"⟩
abbrev cX10_most : ByteArray := prog_12_method_21_code
def yX10_most : MethodName := ⟨RX10, "most", "(IIII)J"⟩
abbrev cX10_make : ByteArray := prog_12_method_22_code
def yX10_make : MethodName := ⟨RX10, "make", "(IIII)V"⟩
abbrev cX10_of : ByteArray := prog_12_method_23_code
def yX10_of : MethodName := ⟨RX10, "of", "(III)I"⟩
abbrev cX10_times : ByteArray := prog_12_method_24_code
def yX10_times : MethodName := ⟨RX10, "times", "(II)I"⟩
abbrev cX10_shift : ByteArray := prog_12_method_25_code
def yX10_shift : MethodName := ⟨RX10, "shift", "(II)I"⟩
abbrev cX10_undo : ByteArray := prog_12_method_26_code
def yX10_undo : MethodName := ⟨RX10, "undo", "()I"⟩
abbrev cX10_at : ByteArray := prog_12_method_27_code
def yX10_at : MethodName := ⟨RX10, "at", "(II)J"⟩
abbrev cX10_isClosed : ByteArray := prog_12_method_28_code
def yX10_isClosed : MethodName := ⟨RX10, "isClosed", "(I)Z"⟩
abbrev cX10_about : ByteArray := prog_12_method_29_code
def yX10_about : MethodName := ⟨RX10, "about", "(II)I"⟩
abbrev cX10_rate : ByteArray := prog_12_method_30_code
def yX10_rate : MethodName := ⟨RX10, "rate", "(II)I"⟩
abbrev cX10_latest : ByteArray := prog_12_method_31_code
def yX10_latest : MethodName := ⟨RX10, "latest", "(II)I"⟩
abbrev cX10_unlike : ByteArray := prog_12_method_32_code
def yX10_unlike : MethodName := ⟨RX10, "unlike", "(II)I"⟩
abbrev cX10_below : ByteArray := prog_12_method_33_code
def yX10_below : MethodName := ⟨RX10, "below", "(II)I"⟩
abbrev cX10_spanOf : ByteArray := prog_12_method_34_code
def yX10_spanOf : MethodName := ⟨RX10, "spanOf", "(IJ)J"⟩
abbrev cX10_first : ByteArray := prog_12_method_35_code
def yX10_first : MethodName := ⟨RX10, "first", "(IJ)I"⟩
abbrev cX10_heap : ByteArray := prog_12_method_36_code
def yX10_heap : MethodName := ⟨RX10, "heap", "(II)J"⟩
abbrev cX10_wait : ByteArray := prog_12_method_37_code
def yX10_wait : MethodName := ⟨RX10, "wait", "(II)I"⟩
abbrev cX10_come : ByteArray := prog_12_method_38_code
def yX10_come : MethodName := ⟨RX10, "come", "(I)I"⟩
abbrev cX10_hardest : ByteArray := prog_12_method_39_code
def yX10_hardest : MethodName := ⟨RX10, "hardest", "(II)I"⟩
abbrev cX10_stop : ByteArray := prog_12_method_40_code
def yX10_stop : MethodName := ⟨RX10, "stop", "()I"⟩
abbrev cX10_serve : ByteArray := prog_12_method_41_code
def yX10_serve : MethodName := ⟨RX10, "serve", "(I)I"⟩
abbrev cX10_came : ByteArray := prog_12_method_42_code
def yX10_came : MethodName := ⟨RX10, "came", "(I)J"⟩
abbrev cX10_served : ByteArray := prog_12_method_43_code
def yX10_served : MethodName := ⟨RX10, "served", "(I)J"⟩
abbrev cX10_moved : ByteArray := prog_12_method_44_code
def yX10_moved : MethodName := ⟨RX10, "moved", "(II)J"⟩
abbrev cX10_lateAt : ByteArray := prog_12_method_45_code
def yX10_lateAt : MethodName := ⟨RX10, "lateAt", "(I)I"⟩
abbrev cX10_late : ByteArray := prog_12_method_46_code
def yX10_late : MethodName := ⟨RX10, "late", "(I)I"⟩
abbrev cX10_mostHeld : ByteArray := prog_12_method_47_code
def yX10_mostHeld : MethodName := ⟨RX10, "mostHeld", "()J"⟩
abbrev cX10_mostLate : ByteArray := prog_12_method_48_code
def yX10_mostLate : MethodName := ⟨RX10, "mostLate", "()I"⟩
abbrev cX10_keeps : ByteArray := prog_12_method_49_code
def yX10_keeps : MethodName := ⟨RX10, "keeps", "(I)I"⟩
abbrev cX10_count : ByteArray := prog_12_method_50_code
def yX10_count : MethodName := ⟨RX10, "count", "(I)I"⟩
abbrev cX10_trace : ByteArray := prog_12_method_51_code
def yX10_trace : MethodName := ⟨RX10, "trace", "(I)I"⟩
abbrev cX10_status : ByteArray := prog_12_method_52_code
def yX10_status : MethodName := ⟨RX10, "status", "()I"⟩
abbrev cX10_clear : ByteArray := prog_12_method_53_code
def yX10_clear : MethodName := ⟨RX10, "clear", "()I"⟩
def RJx8e188 : String := "java/lang/Cloneable"
def TJx8e188 : u_T := fun k => match k with
  | _ => ("", "", "", false)
def tyJx8e188 : Nat → FieldType := fun k => match k with
  | _ => .int
abbrev wsJx8e1880 : List Cond := u_ws RJx8e188 TJx8e188 0
theorem nmJx8e188 : ∀ a, a < 0 → ∀ b, b < 0 → a ≠ b → (TJx8e188 a).2.1 ≠ (TJx8e188 b).2.1 := by decide +kernel
theorem tyJx8e188_ok : ∀ k, k < 0 → parseFieldDescriptor (TJx8e188 k).2.2.1 = some (tyJx8e188 k) := by decide +kernel
def RJ9 : String := "java/lang/Math"
def TJ9 : u_T := fun k => match k with
  | _ => ("", "", "", false)
def tyJ9 : Nat → FieldType := fun k => match k with
  | _ => .int
abbrev wsJ90 : List Cond := u_ws RJ9 TJ9 0
theorem nmJ9 : ∀ a, a < 0 → ∀ b, b < 0 → a ≠ b → (TJ9 a).2.1 ≠ (TJ9 b).2.1 := by decide +kernel
theorem tyJ9_ok : ∀ k, k < 0 → parseFieldDescriptor (TJ9 k).2.2.1 = some (tyJ9 k) := by decide +kernel
abbrev cJ9_max_7cf53 : ByteArray := prog_14_method_65_code
def yJ9_max_7cf53 : MethodName := ⟨RJ9, "max", "(II)I"⟩
abbrev cJ9_max_f86c9 : ByteArray := prog_14_method_66_code
def yJ9_max_f86c9 : MethodName := ⟨RJ9, "max", "(JJ)J"⟩
abbrev cJ9_min_7cf53 : ByteArray := prog_14_method_69_code
def yJ9_min_7cf53 : MethodName := ⟨RJ9, "min", "(II)I"⟩
abbrev cJ9_min_f86c9 : ByteArray := prog_14_method_70_code
def yJ9_min_f86c9 : MethodName := ⟨RJ9, "min", "(JJ)J"⟩
def RJ10 : String := "java/lang/System"
def TJ10 : u_T := fun k => match k with
  | _ => ("", "", "", false)
def tyJ10 : Nat → FieldType := fun k => match k with
  | _ => .int
abbrev wsJ100 : List Cond := u_ws RJ10 TJ10 0
theorem nmJ10 : ∀ a, a < 0 → ∀ b, b < 0 → a ≠ b → (TJ10 a).2.1 ≠ (TJ10 b).2.1 := by decide +kernel
theorem tyJ10_ok : ∀ k, k < 0 → parseFieldDescriptor (TJ10 k).2.2.1 = some (tyJ10 k) := by decide +kernel
def RJ7 : String := "java/util/Arrays"
def TJ7 : u_T := fun k => match k with
  | _ => ("", "", "", false)
def tyJ7 : Nat → FieldType := fun k => match k with
  | _ => .int
abbrev wsJ70 : List Cond := u_ws RJ7 TJ7 0
theorem nmJ7 : ∀ a, a < 0 → ∀ b, b < 0 → a ≠ b → (TJ7 a).2.1 ≠ (TJ7 b).2.1 := by decide +kernel
theorem tyJ7_ok : ∀ k, k < 0 → parseFieldDescriptor (TJ7 k).2.2.1 = some (tyJ7 k) := by decide +kernel
abbrev cJ7_copyOf_c38d5 : ByteArray := prog_16_method_124_code
def yJ7_copyOf_c38d5 : MethodName := ⟨RJ7, "copyOf", "([JI)[J"⟩
def RL : String := "FlowCurvesLaw"
abbrev cL_law : ByteArray := code
def yL_law : MethodName := ⟨RL, "law", "([I)Z"⟩
abbrev vwCl : List vw_C := [(RX0, TX0, 5), (RX1, TX1, 4), (RX2, TX2, 4), (RX3, TX3, 3), (RX5, TX5, 4), (RX6, TX6, 2), (RX7, TX7, 4), (RX8, TX8, 1), (RX9, TX9, 10), (RX10, TX10, 15)]
set_option maxRecDepth 100000 in
def lw_ok : List Cond := lw_tbl.filter goodWord
set_option maxRecDepth 100000 in
theorem lw_okI (i : Nat) {w : Cond} (h : lw_tbl[i]? = some w) (hg : goodWord w = true) : w ∈ lw_ok := List.mem_filter.mpr ⟨List.mem_of_getElem? h, hg⟩
set_option maxRecDepth 100000 in
theorem lw_ok_good : ∀ w ∈ lw_ok, goodWord w = true := fun w h => (List.mem_filter.mp h).2
set_option maxRecDepth 100000 in
theorem lw_ok_tbl : ∀ w ∈ lw_ok, w ∈ lw_tbl := fun w h => (List.mem_filter.mp h).1
set_option maxRecDepth 100000 in
theorem inX0 : ∀ w ∈ wsX00, w ∈ lw_ok := by decide +kernel
set_option maxRecDepth 100000 in
theorem inX1 : ∀ w ∈ wsX10, w ∈ lw_ok := by decide +kernel
set_option maxRecDepth 100000 in
theorem inX2 : ∀ w ∈ wsX20, w ∈ lw_ok := by decide +kernel
set_option maxRecDepth 100000 in
theorem inX3 : ∀ w ∈ wsX30, w ∈ lw_ok := by decide +kernel
set_option maxRecDepth 100000 in
theorem inX5 : ∀ w ∈ wsX50, w ∈ lw_ok := by decide +kernel
set_option maxRecDepth 100000 in
theorem inX6 : ∀ w ∈ wsX60, w ∈ lw_ok := by decide +kernel
set_option maxRecDepth 100000 in
theorem inX7 : ∀ w ∈ wsX70, w ∈ lw_ok := by decide +kernel
set_option maxRecDepth 100000 in
theorem inX8 : ∀ w ∈ wsX80, w ∈ lw_ok := by decide +kernel
set_option maxRecDepth 100000 in
theorem inX9 : ∀ w ∈ wsX90, w ∈ lw_ok := by decide +kernel
set_option maxRecDepth 100000 in
theorem inX10 : ∀ w ∈ wsX100, w ∈ lw_ok := by decide +kernel
