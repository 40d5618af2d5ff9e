/-! ===== FlowCurves: curve, draw, the constructor ===== -/
theorem isSome_of {o : Option aE} {e : aE} (h : o = some e) : o.isSome = true := by rw [h]; rfl
theorem land31 (x : Int) : Int64.ofInt x &&& Int64.ofInt 2147483647 = Int64.ofInt (x % 2147483648) := by
  apply Int64.toBitVec_inj.1
  rw [Int64.toBitVec_and, Int64.toBitVec_ofInt, Int64.toBitVec_ofInt, Int64.toBitVec_ofInt]
  apply BitVec.eq_of_toNat_eq
  rw [BitVec.toNat_and, BitVec.toNat_ofInt, BitVec.toNat_ofInt, BitVec.toNat_ofInt]
  have e : ((2147483647 : Int) % ((2 ^ 64 : Nat) : Int)).toNat = 2 ^ 31 - 1 := by decide
  rw [e, Nat.and_two_pow_sub_one_eq_mod]
  omega
theorem shr8 {x : Int} (h0 : 0 ≤ x) (h1 : x < 2147483648) : Int64.ofInt x >>> ((Int32.ofInt 8).toInt64 &&& 63) = Int64.ofInt (x / 256) := by
  have e : ((Int32.ofInt 8).toInt64 &&& 63) = (8 : Int64) := by decide
  rw [e]
  apply Int64.toInt_inj.1
  rw [← Int64.toInt_toBitVec, Int64.toBitVec_shiftRight]
  have e2 : ((8 : Int64).toBitVec.smod 64) = 8#64 := by decide
  rw [e2]
  show (BitVec.sshiftRight (Int64.ofInt x).toBitVec 8).toInt = _
  rw [BitVec.toInt_sshiftRight, Int64.toInt_toBitVec, Int64.toInt_ofInt_of_le (by omega) (by omega), Int64.toInt_ofInt_of_le (by omega) (by omega), Int.shiftRight_eq_div_pow]
  rfl
theorem hset4 (h : aH) {a b : Nat} (u u' v v' : aE) (ab : a ≠ b) : hset (hset (hset (hset h a u) b v) a u') b v' = hset (hset h a u') b v' := by
  funext c
  by_cases q1 : c = a <;> by_cases q2 : c = b <;> simp [hset, q1, q2]
theorem CRel.row0 {x ac ar rr cr ta tm mk md on ot lo hi : Nat} {S : aS} {h : aH} (hC : CRel x ac ar rr cr ta tm mk md on ot lo hi S h) : CRel x ac ar rr cr ta tm mk md on ot lo hi (sRow 0 (sRw S) S) (hset h x (eO 8 [vA ac, vI ((sCu S)), vI ((sMu S)), vA ar, vI 0, vA rr, vI ((sSv S)), vA ta, vA mk, vI ((sLt S))])) := by
  obtain ⟨⟨o1, o2, o3, o4, o5, o6, o7, o8, o9, oA, oB, oC, oD⟩, hx, ⟨fc, hac, hcs⟩, ⟨fr, har, hrw⟩, ⟨cm, hrr, hcr, hcm⟩, ⟨gt, hta, htm, htl⟩, hmk, ⟨gm, hmd⟩, ⟨g1, hon⟩, ⟨g2, hot⟩⟩ := id hC
  exact ⟨⟨o1, o2, o3, o4, o5, o6, o7, o8, o9, oA, oB, oC, (by rw [hset_ne _ _ (show hi - 1 ≠ x by omega)]; exact oD)⟩, (hset_eq _ _ _), ⟨fc, ((hset_ne _ _ (by omega)).trans hac), (fun i q1 q2 => (hcs i q1 q2).keep (by omega))⟩, ⟨fr, ((hset_ne _ _ (by omega)).trans har), (fun t q1 q2 => by have q3 : t < 0 := q2; omega)⟩, ⟨cm, ((hset_ne _ _ (by omega)).trans hrr), ((hset_ne _ _ (by omega)).trans hcr), hcm⟩, ⟨gt, ((hset_ne _ _ (by omega)).trans hta), ((hset_ne _ _ (by omega)).trans htm), htl⟩, ((hset_ne _ _ (by omega)).trans hmk), ⟨_, ((hset_ne _ _ (by omega)).trans hmd)⟩, ⟨_, ((hset_ne _ _ (by omega)).trans hon)⟩, ⟨_, ((hset_ne _ _ (by omega)).trans hot)⟩⟩
set_option maxRecDepth 100000 in
set_option maxHeartbeats 4000000 in
theorem k_X9_rowComesRound {G : aG} {d : Nat} {x ac ar rr cr ta tm mk md on ot lo hi : Nat} {S : aS} {nc : Nat} {h : aH} (hC : CRel x ac ar rr cr ta tm mk md on ot lo hi S h) (hS : SOk nc S) {st gn : Int} (hst1 : 1 ≤ st) (hst6 : st ≤ 60) (hgn0 : 0 ≤ gn) (hgn1 : gn ≤ 1000000000) : MC G mX9_rowComesRound d 0 0 [vA x, vI st, vI gn] h (Ret (vI (b2i (RowGood (sRn S) (sRw S) st gn))) h) := by
  obtain ⟨⟨o1, o2, o3, o4, o5, o6, o7, o8, o9, oA, oB, oC, oD⟩, hx, ⟨fc, hac, hcs⟩, ⟨fr, har, hrw⟩, ⟨cm, hrr, hcr, hcm⟩, ⟨gt, hta, htm, htl⟩, hmk, ⟨gm, hmd⟩, ⟨g1, hon⟩, ⟨g2, hot⟩⟩ := id hC
  obtain ⟨⟨s1, s2⟩, s3, ⟨s4, s5⟩, ⟨s6, s7, s8⟩, s9, ⟨s10, s11⟩, s12⟩ := id hS
  refine MC.of (by decide) (Nat.le_of_ble_eq_true rfl) (fun ok okh => ?_)
  show EX G mX9_rowComesRound d 0 0 _ 0 [(0, vA x), (1, vI st), (2, vI gn)] [] h 0 0
  refine x_aload_n 0 dX9_rowComesRound_0 rfl rfl ?_
  refine x_get 4 dX9_rowComesRound_1 fl_X9_27 hx rfl ?_
  refine x_iload_n 1 dX9_rowComesRound_4 rfl rfl ?_
  refine x_isub dX9_rowComesRound_5 (by unfold okI; omega) ?_
  refine x_nmI (fun x1 e_x1 => ?_)
  refine x_istore_n (L' := [(3, vI x1), (0, vA x), (1, vI st), (2, vI gn)]) dX9_rowComesRound_6 rfl (Nat.le_of_ble_eq_true rfl) rfl ?_
  refine x_iload_n 2 dX9_rowComesRound_7 rfl rfl ?_
  refine x_iconst dX9_rowComesRound_8 (okI_c rfl) ?_
  refine x_icmp_lt 28 dX9_rowComesRound_9 (by decide) (fun c_9 => (by exfalso; omega)) (fun c_9 => ?_)
  refine x_iload_n 0 dX9_rowComesRound_12 rfl rfl ?_
  refine x_if_lt 28 dX9_rowComesRound_13 (by decide) (fun c_13 => ?_) (fun c_13 => ?_)
  · refine x_iconst dX9_rowComesRound_28 (okI_c rfl) ?_
    exact x_zreturn dX9_rowComesRound_29 rfl (by omega) (by decide) (by decide) (retI (b2i_f (fun z => by have := z.1; omega)).symm)
  · refine x_aload_n 1 dX9_rowComesRound_16 rfl rfl ?_
    refine x_get 4 dX9_rowComesRound_17 fl_X9_27 hx rfl ?_
    refine x_aload_n 1 dX9_rowComesRound_20 rfl rfl ?_
    refine x_get 3 dX9_rowComesRound_21 fl_X9_23 hx rfl ?_
    refine x_alenJ dX9_rowComesRound_24 har (by omega) ?_
    refine x_icmp_le 30 dX9_rowComesRound_25 (by decide) (fun c_25 => ?_) (fun c_25 => (by exfalso; omega))
    refine x_iconst dX9_rowComesRound_30 (okI_c rfl) ?_
    refine x_istore (L' := [(4, vI 1), (3, vI x1), (0, vA x), (1, vI st), (2, vI gn)]) dX9_rowComesRound_31 (Nat.le_of_ble_eq_true rfl) rfl ?_
    have loop_33 : ∀ (k_33 : Nat) (i : Int) , (sRn S - i).toNat < k_33 → (1 ≤ i) → (i ≤ sRn S ∨ i = 1) → (∀ t : Int, 1 ≤ t → t < i → sRw S (t - 1).toNat ≤ sRw S t.toNat) → EX G mX9_rowComesRound d 0 0 (Ret (vI (b2i (RowGood (sRn S) (sRw S) st gn))) h) 33 [(0, vA x), (1, vI st), (2, vI gn), (3, vI x1), (4, vI i)] [] h 0 0 := by
      intro k_33
      induction k_33 with
      | zero => intro i hm; exact absurd hm (Nat.not_lt_zero _)
      | succ k_33 ih_33 =>
        intro i hm_33 hi1 hin hmo
        refine x_iload 4 dX9_rowComesRound_33 rfl ?_
        refine x_aload_n 0 dX9_rowComesRound_35 rfl rfl ?_
        refine x_get 4 dX9_rowComesRound_36 fl_X9_27 hx rfl ?_
        refine x_icmp_ge 70 dX9_rowComesRound_39 (by decide) (fun c_39 => ?_) (fun c_39 => ?_)
        · refine x_aload_n 0 dX9_rowComesRound_70 rfl rfl ?_
          refine x_get 3 dX9_rowComesRound_71 fl_X9_23 hx rfl ?_
          refine x_iload_n 3 dX9_rowComesRound_74 rfl rfl ?_
          refine x_laload dX9_rowComesRound_75 har (by omega) (by omega) ?_
          refine x_iload_n 2 dX9_rowComesRound_76 rfl rfl ?_
          refine x_i2l dX9_rowComesRound_77 ?_
          refine x_ladd dX9_rowComesRound_78 (by rw [hrw _ (by omega) (by omega)]; have := s8 x1 (by omega) (by omega); unfold okJ; omega) ?_
          refine x_aload_n 0 dX9_rowComesRound_79 rfl rfl ?_
          refine x_get 3 dX9_rowComesRound_80 fl_X9_23 hx rfl ?_
          refine x_aload_n 0 dX9_rowComesRound_83 rfl rfl ?_
          refine x_get 4 dX9_rowComesRound_84 fl_X9_27 hx rfl ?_
          refine x_iconst dX9_rowComesRound_87 (okI_c rfl) ?_
          refine x_isub dX9_rowComesRound_88 (by unfold okI; omega) ?_
          refine x_laload dX9_rowComesRound_89 har (by omega) (by omega) ?_
          refine x_lc_lt 98 dX9_rowComesRound_90 dX9_rowComesRound_91 (by decide) (fun c_90 => ?_) (fun c_90 => ?_)
          · refine x_iconst dX9_rowComesRound_98 (okI_c rfl) ?_
            exact x_zreturn dX9_rowComesRound_99 rfl (by omega) (by decide) (by decide) (retI (b2i_f (fun z => by have z3 := z.2.2; rw [← hrw _ (by omega) (by omega), ← hrw _ (by omega) (by omega), ← e_x1] at z3; omega)).symm)
          · refine x_iconst dX9_rowComesRound_94 (okI_c rfl) ?_
            refine x_goto 99 dX9_rowComesRound_95 (by decide) ?_
            exact x_zreturn dX9_rowComesRound_99 rfl (by omega) (by decide) (by decide) (retI (b2i_t ⟨by omega, fun i q1 q2 => by have := hmo (i + 1) (by omega) (by omega); rw [show i + 1 - 1 = i by omega] at this; exact this, by rw [← hrw _ (by omega) (by omega), ← hrw _ (by omega) (by omega), ← e_x1]; omega⟩).symm)
        · refine x_aload_n 0 dX9_rowComesRound_42 rfl rfl ?_
          refine x_get 3 dX9_rowComesRound_43 fl_X9_23 hx rfl ?_
          refine x_iload 4 dX9_rowComesRound_46 rfl ?_
          refine x_laload dX9_rowComesRound_48 har (by omega) (by omega) ?_
          refine x_aload_n 0 dX9_rowComesRound_49 rfl rfl ?_
          refine x_get 3 dX9_rowComesRound_50 fl_X9_23 hx rfl ?_
          refine x_iload 4 dX9_rowComesRound_53 rfl ?_
          refine x_iconst dX9_rowComesRound_55 (okI_c rfl) ?_
          refine x_isub dX9_rowComesRound_56 (by unfold okI; omega) ?_
          refine x_laload dX9_rowComesRound_57 har (by omega) (by omega) ?_
          refine x_lc_ge 64 dX9_rowComesRound_58 dX9_rowComesRound_59 (by decide) (fun c_58 => ?_) (fun c_58 => ?_)
          · refine x_iinc 4 (L' := [(4, vI (i + 1)), (0, vA x), (1, vI st), (2, vI gn), (3, vI x1)]) dX9_rowComesRound_64 rfl (by unfold okI; omega) (Nat.le_of_ble_eq_true rfl) rfl ?_
            refine x_goto 33 dX9_rowComesRound_67 (by decide) ?_
            exact EX.pick [1, 2, 3, 4, 0] rfl (ih_33 (i + 1)  (by omega) (by omega) (by omega) (fun t q1 q2 => by by_cases q : t = i; subst q; rw [← hrw _ (by omega) (by omega), ← hrw _ (by omega) (by omega)]; omega; exact hmo t q1 (by omega)))
          · refine x_iconst dX9_rowComesRound_62 (okI_c rfl) ?_
            exact x_zreturn dX9_rowComesRound_63 rfl (by omega) (by decide) (by decide) (retI (b2i_f (fun z => by have z2 := z.2.1 (i - 1) (by omega) (by omega); rw [show i - 1 + 1 = i by omega, ← hrw _ (by omega) (by omega), ← hrw _ (by omega) (by omega)] at z2; omega)).symm)
    exact EX.pick [2, 3, 4, 1, 0] rfl (loop_33 ((sRn S - (1 : Int)).toNat + 1) 1  (Nat.lt_succ_self _) (by omega) (by omega) (fun t q1 q2 => by omega))
set_option maxRecDepth 100000 in
set_option maxHeartbeats 4000000 in
theorem k_X9_curve {G : aG} {d : Nat} (hd : 8 ≤ d) {x ac ar rr cr ta tm mk md on ot lo hi : Nat} {S : aS} {nc : Nat} {h : aH} (hC : CRel x ac ar rr cr ta tm mk md on ot lo hi S h) (hS : SOk nc S) {st : Int} {gn : Int} : MC G mX9_curve d 2 265 [vA x, vI st, vI gn] h (COut x ac ar rr cr ta tm mk md on ot lo hi h vI (oCurve st gn S)) := by
  obtain ⟨⟨o1, o2, o3, o4, o5, o6, o7, o8, o9, oA, oB, oC, oD⟩, hx, ⟨fc, hac, hcs⟩, ⟨fr, har, hrw⟩, ⟨cm, hrr, hcr, hcm⟩, ⟨gt, hta, htm, htl⟩, hmk, ⟨gm, hmd⟩, ⟨g1, hon⟩, ⟨g2, hot⟩⟩ := id hC
  obtain ⟨⟨s1, s2⟩, s3, ⟨s4, s5⟩, ⟨s6, s7, s8⟩, s9, ⟨s10, s11⟩, s12⟩ := id hS
  refine MC.of (by decide) (Nat.le_of_ble_eq_true rfl) (fun ok okh => ?_)
  show EX G mX9_curve d 2 265 _ 0 [(0, vA x), (1, vI st), (2, vI gn)] [] h 0 0
  refine x_iload_n 1 dX9_curve_0 rfl rfl ?_
  refine x_iconst dX9_curve_1 (okI_c rfl) ?_
  refine x_icmp_lt 21 dX9_curve_2 (by decide) (fun c_2 => ?_) (fun c_2 => ?_)
  · refine x_aload_n 0 dX9_curve_21 rfl rfl ?_
    refine x_iconst dX9_curve_22 (okI_c rfl) ?_
    refine x_callV [vI ((-1))] dX9_curve_23 kv_X9_59 rfl rfl hx (by omega) (Nat.le_of_ble_eq_true rfl) (by omega) (by omega) (k_X9_refused (d := 0) (S := S)  (hC)) (fun r1 h1 q1 => ?_)
    obtain ⟨rfl, hCz, hFz⟩ := q1
    exact x_ireturn dX9_curve_26 rfl (by omega) (by omega) (outC (by rw [oCurve, if_pos (by omega)]; rfl) hCz (Fr.trans Fr.refl hFz))
  · refine x_iload_n 1 dX9_curve_5 rfl rfl ?_
    refine x_bipush dX9_curve_6 (okI_c rfl) (by decide +kernel) ?_
    refine x_icmp_gt 21 dX9_curve_8 (by decide) (fun c_8 => ?_) (fun c_8 => ?_)
    · refine x_aload_n 0 dX9_curve_21 rfl rfl ?_
      refine x_iconst dX9_curve_22 (okI_c rfl) ?_
      refine x_callV [vI ((-1))] dX9_curve_23 kv_X9_59 rfl rfl hx (by omega) (Nat.le_of_ble_eq_true rfl) (by omega) (by omega) (k_X9_refused (d := 0) (S := S)  (hC)) (fun r1 h1 q1 => ?_)
      obtain ⟨rfl, hCz, hFz⟩ := q1
      exact x_ireturn dX9_curve_26 rfl (by omega) (by omega) (outC (by rw [oCurve, if_pos (by omega)]; rfl) hCz (Fr.trans Fr.refl hFz))
    · refine x_iload_n 2 dX9_curve_11 rfl rfl ?_
      refine x_if_lt 21 dX9_curve_12 (by decide) (fun c_12 => ?_) (fun c_12 => ?_)
      · refine x_aload_n 0 dX9_curve_21 rfl rfl ?_
        refine x_iconst dX9_curve_22 (okI_c rfl) ?_
        refine x_callV [vI ((-1))] dX9_curve_23 kv_X9_59 rfl rfl hx (by omega) (Nat.le_of_ble_eq_true rfl) (by omega) (by omega) (k_X9_refused (d := 0) (S := S)  (hC)) (fun r1 h1 q1 => ?_)
        obtain ⟨rfl, hCz, hFz⟩ := q1
        exact x_ireturn dX9_curve_26 rfl (by omega) (by omega) (outC (by rw [oCurve, if_pos (by omega)]; rfl) hCz (Fr.trans Fr.refl hFz))
      · refine x_iload_n 2 dX9_curve_15 rfl rfl ?_
        refine x_ldc (n := 1000000000) dX9_curve_16 (okI_c rfl) kc_X9_73 ?_
        refine x_icmp_le 27 dX9_curve_18 (by decide) (fun c_18 => ?_) (fun c_18 => ?_)
        · refine x_aload_n 0 dX9_curve_27 rfl rfl ?_
          refine x_iload_n 1 dX9_curve_28 rfl rfl ?_
          refine x_iload_n 2 dX9_curve_29 rfl rfl ?_
          refine x_callV [vI st, vI gn] dX9_curve_30 kv_X9_74 rfl rfl hx (by omega) (Nat.le_of_ble_eq_true rfl) (by omega) (by omega) (k_X9_rowComesRound (d := 0) hC hS (st := st) (gn := gn) (by omega) (by omega) (by omega) (by omega)) (after_ret ?_)
          refine x_if_ne 43 dX9_curve_33 (by decide) (fun c_33 => ?_) (fun c_33 => ?_)
          · refine x_aload_n 0 dX9_curve_43 rfl rfl ?_
            refine x_get 1 dX9_curve_44 fl_X9_15 hx rfl ?_
            refine x_aload_n 0 dX9_curve_47 rfl rfl ?_
            refine x_get 0 dX9_curve_48 fl_X9_11 hx rfl ?_
            refine x_alenR dX9_curve_51 hac (by omega) ?_
            refine x_icmp_lt 62 dX9_curve_52 (by decide) (fun c_52 => ?_) (fun c_52 => ?_)
            · have hgd := b2i_ne c_33
              have hro : RowOk (sRn S) st gn fr := ⟨by omega, by omega, hgd.1, s7, by omega, by omega, fun i q1 q2 => by rw [hrw i q1 q2]; have := s8 i q1 q2; omega, fun i q1 q2 => by rw [hrw i q1 (by omega), hrw (i + 1) (by omega) q2]; exact hgd.2.1 i q1 q2, by have := hgd.1; rw [hrw (sRn S - 1) (by omega) (by omega), hrw (sRn S - st) (by omega) (by omega)]; exact hgd.2.2⟩
              have hgd1 := hgd.1
              refine x_aload_n 0 dX9_curve_62 rfl rfl ?_
              refine x_get 8 dX9_curve_63 fl_X9_50 hx rfl ?_
              refine x_aload_n 0 dX9_curve_66 rfl rfl ?_
              refine x_get 3 dX9_curve_67 fl_X9_23 hx rfl ?_
              refine x_aload_n 0 dX9_curve_70 rfl rfl ?_
              refine x_get 4 dX9_curve_71 fl_X9_27 hx rfl ?_
              refine x_iload_n 1 dX9_curve_74 rfl rfl ?_
              refine x_iload_n 2 dX9_curve_75 rfl rfl ?_
              refine x_callV [vA ar, vI ((sRn S)), vI st, vI gn] dX9_curve_76 kv_X9_78 rfl rfl hmk (by omega) (Nat.le_of_ble_eq_true rfl) (by omega) (by omega) (k_X3_fromRow (d := 7) (by omega) ⟨hmk, hmd, hon, hot, o9, oA⟩ har (by omega) (len := sRn S) (stp := st) (gn := gn) hro) (fun r1 h1 q1 => ?_)
              rw [cval_congr (by omega) (by omega) (fun t q1 q2 => hrw t q1 (by omega))] at q1
              obtain ⟨h2, hsc, hor⟩ := q1
              obtain ⟨hC2, hF2⟩ := hC.scr hsc
              rcases hor with ⟨rfl, e2, hno⟩ | ⟨T, D, C, hyes, hnew⟩
              · rw [e2]
                show EX G mX9_curve d 2 265 _ _ _ [vN] _ _ _
                refine x_astorer_n (L' := [(3, vN), (0, vA x), (1, vI st), (2, vI gn)]) dX9_curve_79 rfl (Nat.le_of_ble_eq_true rfl) rfl ?_
                refine x_aloadr_n 0 dX9_curve_80 rfl rfl ?_
                refine x_ifnull (r := none) 89 dX9_curve_81 (by decide) (fun _ => ?_) (fun z => nomatch z)
                refine x_aload_n 1 dX9_curve_89 rfl rfl ?_
                refine x_aloadr_n 0 dX9_curve_90 rfl rfl ?_
                refine x_callV [vN] dX9_curve_91 kv_X9_82 rfl rfl hC2.2.1 (by omega) (Nat.le_of_ble_eq_true rfl) (by omega) (by omega) (k_X9_kept_no (d := 1) (by omega) hC2) (fun r3 h3 q3 => ?_)
                obtain ⟨rfl, hCz, hFz⟩ := q3
                exact x_ireturn dX9_curve_94 rfl (by omega) (by omega) (outC (by rw [oCurve, if_neg (by omega), if_pos (b2i_ne c_33), if_neg (show ¬ 60 ≤ sCu S by omega), mkT_no hno]; rfl) hCz (Fr.trans hF2 hFz))
              · obtain ⟨c9, rfl, hC3, hF3, hce⟩ := hC2.newc hnew
                show EX G mX9_curve d 2 265 _ _ _ [vA c9] _ _ _
                refine x_astore_n (L' := [(3, vA c9), (0, vA x), (1, vI st), (2, vI gn)]) dX9_curve_79 rfl (Nat.le_of_ble_eq_true rfl) rfl ?_
                refine x_aload_n 0 dX9_curve_80 rfl rfl ?_
                refine x_ifnull (r := some c9) 89 dX9_curve_81 (by decide) (fun z => nomatch z) (fun _ => ?_)
                refine x_aload_n 1 dX9_curve_84 rfl rfl ?_
                refine x_iconst dX9_curve_85 (okI_c rfl) ?_
                refine x_put 4 dX9_curve_86 pu_X9_27 hC3.2.1 rfl rfl (Nat.le_of_ble_eq_true rfl) ?_
                refine x_aload_n 1 dX9_curve_89 rfl rfl ?_
                refine x_aload_n 0 dX9_curve_90 rfl rfl ?_
                refine x_callV [vA c9] dX9_curve_91 kv_X9_82 rfl rfl (hset_eq _ _ _) (by omega) (Nat.le_of_ble_eq_true rfl) (by omega) (by omega) (k_X9_kept (d := 1) (by omega) hC3.row0 s1 (show sCu S < 60 by omega) (hce.keep (by omega))) (fun r3 h3 q3 => ?_)
                obtain ⟨rfl, hCz, hFz⟩ := q3
                exact x_ireturn dX9_curve_94 rfl (by omega) (by omega) (outC (by rw [oCurve, if_neg (by omega), if_pos (b2i_ne c_33), if_neg (show ¬ 60 ≤ sCu S by omega), mkT_yes hyes]; rfl) hCz (Fr.trans ((hF2.trans hF3).trans (Fr.set Fr.refl (by omega))) hFz))
            · refine x_aload_n 0 dX9_curve_55 rfl rfl ?_
              refine x_bipush dX9_curve_56 (okI_c rfl) (by decide +kernel) ?_
              refine x_callV [vI ((-3))] dX9_curve_58 kv_X9_59 rfl rfl hx (by omega) (Nat.le_of_ble_eq_true rfl) (by omega) (by omega) (k_X9_refused (d := 0) (S := S)  (hC)) (fun r1 h1 q1 => ?_)
              obtain ⟨rfl, hCz, hFz⟩ := q1
              exact x_ireturn dX9_curve_61 rfl (by omega) (by omega) (outC (by rw [oCurve, if_neg (by omega), if_pos (b2i_ne c_33), if_pos (by omega)]; rfl) hCz (Fr.trans Fr.refl hFz))
          · refine x_aload_n 0 dX9_curve_36 rfl rfl ?_
            refine x_bipush dX9_curve_37 (okI_c rfl) (by decide +kernel) ?_
            refine x_callV [vI ((-2))] dX9_curve_39 kv_X9_59 rfl rfl hx (by omega) (Nat.le_of_ble_eq_true rfl) (by omega) (by omega) (k_X9_refused (d := 0) (S := S)  (hC)) (fun r1 h1 q1 => ?_)
            obtain ⟨rfl, hCz, hFz⟩ := q1
            exact x_ireturn dX9_curve_42 rfl (by omega) (by omega) (outC (by rw [oCurve, if_neg (by omega), if_neg (b2i_eq c_33)]; rfl) hCz (Fr.trans Fr.refl hFz))
        · refine x_aload_n 0 dX9_curve_21 rfl rfl ?_
          refine x_iconst dX9_curve_22 (okI_c rfl) ?_
          refine x_callV [vI ((-1))] dX9_curve_23 kv_X9_59 rfl rfl hx (by omega) (Nat.le_of_ble_eq_true rfl) (by omega) (by omega) (k_X9_refused (d := 0) (S := S)  (hC)) (fun r1 h1 q1 => ?_)
          obtain ⟨rfl, hCz, hFz⟩ := q1
          exact x_ireturn dX9_curve_26 rfl (by omega) (by omega) (outC (by rw [oCurve, if_pos (by omega)]; rfl) hCz (Fr.trans Fr.refl hFz))
set_option maxRecDepth 100000 in
set_option maxHeartbeats 4000000 in
theorem k_X9_draw {G : aG} {d : Nat} (hd : 8 ≤ d) {x ac ar rr cr ta tm mk md on ot lo hi : Nat} {S : aS} {nc : Nat} {h : aH} (hC : CRel x ac ar rr cr ta tm mk md on ot lo hi S h) (hS : SOk nc S) {n : Int} {z : Int} {mo : Int} : MC G mX9_draw d 0 0 [vA x, vI n, vI z, vI mo] h (COut x ac ar rr cr ta tm mk md on ot lo hi h vI (oDraw n z mo S)) := by
  obtain ⟨⟨o1, o2, o3, o4, o5, o6, o7, o8, o9, oA, oB, oC, oD⟩, hx, ⟨fc, hac, hcs⟩, ⟨fr, har, hrw⟩, ⟨cm, hrr, hcr, hcm⟩, ⟨gt, hta, htm, htl⟩, hmk, ⟨gm, hmd⟩, ⟨g1, hon⟩, ⟨g2, hot⟩⟩ := id hC
  obtain ⟨⟨s1, s2⟩, s3, ⟨s4, s5⟩, ⟨s6, s7, s8⟩, s9, ⟨s10, s11⟩, s12⟩ := id hS
  refine MC.of (by decide) (Nat.le_of_ble_eq_true rfl) (fun ok okh => ?_)
  show EX G mX9_draw d 0 0 _ 0 [(0, vA x), (1, vI n), (2, vI z), (3, vI mo)] [] h 0 0
  have okz : okI z := ok (vI z) (by simp)
  refine x_iload_n 1 dX9_draw_0 rfl rfl ?_
  refine x_iconst dX9_draw_1 (okI_c rfl) ?_
  refine x_icmp_lt 22 dX9_draw_2 (by decide) (fun c_2 => ?_) (fun c_2 => ?_)
  · refine x_aload_n 0 dX9_draw_22 rfl rfl ?_
    refine x_iconst dX9_draw_23 (okI_c rfl) ?_
    refine x_callV [vI ((-1))] dX9_draw_24 kv_X9_59 rfl rfl hx (by omega) (Nat.le_of_ble_eq_true rfl) (by omega) (by omega) (k_X9_refused (d := 0) (S := S)  (hC)) (fun r1 h1 q1 => ?_)
    obtain ⟨rfl, hCz, hFz⟩ := q1
    exact x_ireturn dX9_draw_27 rfl (by omega) (by omega) (outC (by rw [oDraw, if_pos (by omega)]; rfl) hCz (Fr.trans Fr.refl hFz))
  · refine x_iload_n 1 dX9_draw_5 rfl rfl ?_
    refine x_sipush dX9_draw_6 (okI_c rfl) (by decide +kernel) ?_
    refine x_icmp_gt 22 dX9_draw_9 (by decide) (fun c_9 => ?_) (fun c_9 => ?_)
    · refine x_aload_n 0 dX9_draw_22 rfl rfl ?_
      refine x_iconst dX9_draw_23 (okI_c rfl) ?_
      refine x_callV [vI ((-1))] dX9_draw_24 kv_X9_59 rfl rfl hx (by omega) (Nat.le_of_ble_eq_true rfl) (by omega) (by omega) (k_X9_refused (d := 0) (S := S)  (hC)) (fun r1 h1 q1 => ?_)
      obtain ⟨rfl, hCz, hFz⟩ := q1
      exact x_ireturn dX9_draw_27 rfl (by omega) (by omega) (outC (by rw [oDraw, if_pos (by omega)]; rfl) hCz (Fr.trans Fr.refl hFz))
    · refine x_iload_n 3 dX9_draw_12 rfl rfl ?_
      refine x_if_lt 22 dX9_draw_13 (by decide) (fun c_13 => ?_) (fun c_13 => ?_)
      · refine x_aload_n 0 dX9_draw_22 rfl rfl ?_
        refine x_iconst dX9_draw_23 (okI_c rfl) ?_
        refine x_callV [vI ((-1))] dX9_draw_24 kv_X9_59 rfl rfl hx (by omega) (Nat.le_of_ble_eq_true rfl) (by omega) (by omega) (k_X9_refused (d := 0) (S := S)  (hC)) (fun r1 h1 q1 => ?_)
        obtain ⟨rfl, hCz, hFz⟩ := q1
        exact x_ireturn dX9_draw_27 rfl (by omega) (by omega) (outC (by rw [oDraw, if_pos (by omega)]; rfl) hCz (Fr.trans Fr.refl hFz))
      · refine x_iload_n 3 dX9_draw_16 rfl rfl ?_
        refine x_ldc (n := 1000000) dX9_draw_17 (okI_c rfl) kc_X9_66 ?_
        refine x_icmp_le 28 dX9_draw_19 (by decide) (fun c_19 => ?_) (fun c_19 => ?_)
        · refine x_iload_n 1 dX9_draw_28 rfl rfl ?_
          refine x_aload_n 0 dX9_draw_29 rfl rfl ?_
          refine x_get 3 dX9_draw_30 fl_X9_23 hx rfl ?_
          refine x_alenJ dX9_draw_33 har (by omega) ?_
          refine x_aload_n 0 dX9_draw_34 rfl rfl ?_
          refine x_get 4 dX9_draw_35 fl_X9_27 hx rfl ?_
          refine x_isub dX9_draw_38 (by unfold okI; omega) ?_
          refine x_icmp_le 49 dX9_draw_39 (by decide) (fun c_39 => ?_) (fun c_39 => ?_)
          · refine x_iload_n 2 dX9_draw_49 rfl rfl ?_
            refine x_i2l dX9_draw_50 ?_
            refine x_lstore (L' := [(4, vJ z), (0, vA x), (1, vI n), (2, vI z), (3, vI mo)]) dX9_draw_51 (Nat.le_of_ble_eq_true rfl) rfl ?_
            refine x_aload_n 1 dX9_draw_53 rfl rfl ?_
            refine x_get 4 dX9_draw_54 fl_X9_27 hx rfl ?_
            refine x_if_le 74 dX9_draw_57 (by decide) (fun c_57 => ?_) (fun c_57 => ?_)
            · refine x_lconst (x := 0) dX9_draw_74 (okJ_c rfl) rfl ?_
              refine x_lstore (L' := [(6, vJ 0), (4, vJ z), (0, vA x), (1, vI n), (2, vI z), (3, vI mo)]) dX9_draw_75 (Nat.le_of_ble_eq_true rfl) rfl ?_
              refine x_iconst dX9_draw_77 (okI_c rfl) ?_
              refine x_istore (L' := [(8, vI 0), (6, vJ 0), (4, vJ z), (0, vA x), (1, vI n), (2, vI z), (3, vI mo)]) dX9_draw_78 (Nat.le_of_ble_eq_true rfl) rfl ?_
              have loop_80 : ∀ (k_80 : Nat) (zz : Int) (hv : Int) (i : Int) (fi : Nat → Int) (wi : Nat → Int), (n - i).toNat < k_80 → (0 ≤ i) → (i ≤ n) → (-2147483648 ≤ zz) → (zz ≤ 2147483647) → ((hv = if sRn S + i = 0 then 0 else wi (sRn S + i - 1).toNat)) → (0 ≤ hv) → (hv ≤ 1000000000000 + (sRn S + i) * 1000000) → (∀ t : Int, 0 ≤ t → t < sRn S + i → fi t.toNat = wi t.toNat) → (drw mo (n - i).toNat zz (sRn S + i) wi = drw mo n.toNat z (sRn S) (sRw S)) → EX G mX9_draw d 0 0 (COut x ac ar rr cr ta tm mk md on ot lo hi h vI (oDraw n z mo S)) 80 [(0, vA x), (1, vI n), (3, vI mo), (4, vJ zz), (6, vJ hv), (8, vI i)] [] (hset (hset h ar (eJ 300 fi)) x (eO 8 [vA ac, vI ((sCu S)), vI ((sMu S)), vA ar, vI ((sRn S + i)), vA rr, vI ((sSv S)), vA ta, vA mk, vI ((sLt S))])) 0 0 := by
                intro k_80
                induction k_80 with
                | zero => intro zz hv i fi wi hm; exact absurd hm (Nat.not_lt_zero _)
                | succ k_80 ih_80 =>
                  intro zz hv i fi wi hm_80 hi0 hin hz0 hz1 hhv hb0 hb1 hag hdr
                  refine x_iload 5 dX9_draw_80 rfl ?_
                  refine x_iload_n 1 dX9_draw_82 rfl rfl ?_
                  refine x_icmp_ge 156 dX9_draw_83 (by decide) (fun c_83 => ?_) (fun c_83 => ?_)
                  · have hfin : (sRn S + i, wi) = drw mo n.toNat z (sRn S) (sRw S) := by rw [← hdr, show (n - i).toNat = 0 by omega]; rfl
                    refine x_aload_n 0 dX9_draw_156 rfl rfl ?_
                    refine x_aload_n 0 dX9_draw_157 rfl rfl ?_
                    refine x_get 4 dX9_draw_158 fl_X9_27 (hset_eq _ _ _) rfl ?_
                    refine x_callV [vI ((sRn S + i))] dX9_draw_161 kv_X9_63 rfl rfl (hset_eq _ _ _) (by omega) (Nat.le_of_ble_eq_true rfl) (by omega) (by omega) (k_X9_granted (d := 0) (S := sRow (sRn S + i) wi S) (h := (hset (hset h ar (eJ 300 fi)) x (eO 8 [vA ac, vI ((sCu S)), vI ((sMu S)), vA ar, vI ((sRn S + i)), vA rr, vI ((sSv S)), vA ta, vA mk, vI ((sLt S))]))) (⟨⟨o1, o2, o3, o4, o5, o6, o7, o8, o9, oA, oB, oC, (by rw [hset_ne _ _ (show hi - 1 ≠ x by omega), hset_ne _ _ (show hi - 1 ≠ ar by omega)]; exact oD)⟩, (hset_eq _ _ _), ⟨fc, ((hset_ne _ _ (by omega)).trans ((hset_ne _ _ (by omega)).trans hac)), (fun i q1 q2 => ((hcs i q1 q2).keep (by omega)).keep (by omega))⟩, ⟨fi, ((hset_ne _ _ (by omega)).trans (hset_eq _ _ _)), hag⟩, ⟨cm, ((hset_ne _ _ (by omega)).trans ((hset_ne _ _ (by omega)).trans hrr)), ((hset_ne _ _ (by omega)).trans ((hset_ne _ _ (by omega)).trans hcr)), hcm⟩, ⟨gt, ((hset_ne _ _ (by omega)).trans ((hset_ne _ _ (by omega)).trans hta)), ((hset_ne _ _ (by omega)).trans ((hset_ne _ _ (by omega)).trans htm)), htl⟩, ((hset_ne _ _ (by omega)).trans ((hset_ne _ _ (by omega)).trans hmk)), ⟨_, ((hset_ne _ _ (by omega)).trans ((hset_ne _ _ (by omega)).trans hmd))⟩, ⟨_, ((hset_ne _ _ (by omega)).trans ((hset_ne _ _ (by omega)).trans hon))⟩, ⟨_, ((hset_ne _ _ (by omega)).trans ((hset_ne _ _ (by omega)).trans hot))⟩⟩)) (fun r1 h1 q1 => ?_)
                    obtain ⟨rfl, hCz, hFz⟩ := q1
                    exact x_ireturn dX9_draw_164 rfl (by omega) (by omega) (outC (by rw [oDraw, if_neg (by omega), if_neg (by omega), ← hfin, show sRn S + n = sRn S + i by omega]; rfl) hCz (Fr.trans (Fr.set (Fr.set Fr.refl (by omega)) (by omega)) hFz))
                  · refine x_aload_n 0 dX9_draw_86 rfl rfl ?_
                    refine x_get 4 dX9_draw_87 fl_X9_27 (hset_eq _ _ _) rfl ?_
                    refine x_aload_n 0 dX9_draw_90 rfl rfl ?_
                    refine x_get 3 dX9_draw_91 fl_X9_23 (hset_eq _ _ _) rfl ?_
                    refine x_alenJ dX9_draw_94 ((hset_ne _ _ (by omega)).trans (hset_eq _ _ _)) (by omega) ?_
                    refine x_icmp_ge 156 dX9_draw_95 (by decide) (fun c_95 => (by exfalso; omega)) (fun c_95 => ?_)
                    refine x_lload 3 dX9_draw_98 rfl ?_
                    refine x_ldc2 (n := 1103515245) dX9_draw_100 (okJ_c rfl) kc_X9_67 ?_
                    refine x_lmul dX9_draw_103 (by unfold okJ; omega) ?_
                    refine x_ldc2 (n := 12345) dX9_draw_104 (okJ_c rfl) kc_X9_69 ?_
                    refine x_ladd dX9_draw_107 (by unfold okJ; omega) ?_
                    refine x_ldc2 (n := 2147483647) dX9_draw_108 (okJ_c rfl) kc_X9_71 ?_
                    refine x_land (v := (zz * 1103515245 + 12345) % 2147483648) dX9_draw_111 (by unfold okJ; omega) (land31 _) ?_
                    refine x_nmJ (fun z2 e_z2 => ?_)
                    refine x_lstore (L' := [(4, vJ z2), (0, vA x), (1, vI n), (3, vI mo), (6, vJ hv), (8, vI i)]) dX9_draw_112 (Nat.le_of_ble_eq_true rfl) rfl ?_
                    refine x_lload 4 dX9_draw_114 rfl ?_
                    refine x_lload 0 dX9_draw_116 rfl ?_
                    refine x_bipush dX9_draw_118 (okI_c rfl) (by decide +kernel) ?_
                    refine x_lshr (v := z2 / 256) dX9_draw_120 (by unfold okJ; omega) (shr8 (by omega) (by omega)) ?_
                    refine x_iload_n 3 dX9_draw_121 rfl rfl ?_
                    refine x_iconst dX9_draw_122 (okI_c rfl) ?_
                    refine x_iadd dX9_draw_123 (by unfold okI; omega) ?_
                    refine x_i2l dX9_draw_124 ?_
                    refine x_lrem dX9_draw_125 (by omega) (by omega) ?_
                    have hu := modB (x := z2 / 256) (y := mo + 1) (by omega)
                    refine x_nmJ (fun u e_u => ?_)
                    refine x_ladd dX9_draw_126 (by unfold okJ; omega) ?_
                    rw [← e_u] at hu
                    refine x_nmJ (fun hv2 e_hv2 => ?_)
                    refine x_lstore (L' := [(6, vJ hv2), (4, vJ z2), (0, vA x), (1, vI n), (3, vI mo), (8, vI i)]) dX9_draw_127 (Nat.le_of_ble_eq_true rfl) rfl ?_
                    refine x_aload_n 2 dX9_draw_129 rfl rfl ?_
                    refine x_get 3 dX9_draw_130 fl_X9_23 (hset_eq _ _ _) rfl ?_
                    refine x_aload_n 2 dX9_draw_133 rfl rfl ?_
                    refine x_get 4 dX9_draw_134 fl_X9_27 (hset_eq _ _ _) rfl ?_
                    refine x_lload 0 dX9_draw_137 rfl ?_
                    refine x_lastore dX9_draw_139 ((hset_ne _ _ (by omega)).trans (hset_eq _ _ _)) (by omega) (by omega) ?_
                    refine x_aload_n 2 dX9_draw_140 rfl rfl ?_
                    refine x_dup dX9_draw_141 rfl ?_
                    refine x_get 4 dX9_draw_142 fl_X9_27 ((hset_ne _ _ (by omega)).trans (hset_eq _ _ _)) rfl ?_
                    refine x_iconst dX9_draw_145 (okI_c rfl) ?_
                    refine x_iadd dX9_draw_146 (by unfold okI; omega) ?_
                    refine x_put 4 dX9_draw_147 pu_X9_27 ((hset_ne _ _ (by omega)).trans (hset_eq _ _ _)) rfl rfl (Nat.le_of_ble_eq_true rfl) ?_
                    refine x_iinc 5 (L' := [(8, vI (i + 1)), (6, vJ hv2), (4, vJ z2), (0, vA x), (1, vI n), (3, vI mo)]) dX9_draw_150 rfl (by unfold okI; omega) (Nat.le_of_ble_eq_true rfl) rfl ?_
                    refine x_goto 80 dX9_draw_153 (by decide) ?_
                    exact EX.pick [3, 4, 5, 2, 1, 0] rfl (x_ash (by rw [hset4 _ _ _ _ _ (by omega), show sRn S + i + 1 = sRn S + (i + 1) by omega]; rfl) (ih_80 z2 hv2 (i + 1) (va_up fi (sRn S + i).toNat hv2) (va_up wi (sRn S + i).toNat hv2) (by omega) (by omega) (by omega) (by omega) (by omega) (by rw [if_neg (by omega), show sRn S + (i + 1) - 1 = sRn S + i by omega, va_up_self]) (by omega) (by omega) (fun t q1 q2 => by by_cases q : t = sRn S + i; subst q; rw [va_up_self, va_up_self]; rw [va_up_ne _ _ (by omega), va_up_ne _ _ (by omega)]; exact hag t q1 (by omega)) (by rw [← hdr, show (n - i).toNat = (n - (i + 1)).toNat + 1 by omega, drw, ← e_z2, ← e_u, ← hhv, ← e_hv2, show sRn S + i + 1 = sRn S + (i + 1) by omega])))
              exact EX.pick [3, 4, 6, 2, 1, 0] rfl (x_ash (show h = (hset (hset h ar (eJ 300 fr)) x (eO 8 [vA ac, vI ((sCu S)), vI ((sMu S)), vA ar, vI ((sRn S + 0)), vA rr, vI ((sSv S)), vA ta, vA mk, vI ((sLt S))])) from by rw [Int.add_zero, hset_self har, hset_self hx]) (loop_80 ((n - (0 : Int)).toNat + 1) z 0 0 fr (sRw S) (Nat.lt_succ_self _) (by omega) (by omega) (by unfold okI at okz; omega) (by unfold okI at okz; omega) (by rw [if_pos (by omega)]) (by omega) (by omega) (fun t q1 q2 => hrw t q1 (by omega)) (by rw [Int.sub_zero, Int.add_zero])))
            · refine x_aload_n 1 dX9_draw_60 rfl rfl ?_
              refine x_get 3 dX9_draw_61 fl_X9_23 hx rfl ?_
              refine x_aload_n 1 dX9_draw_64 rfl rfl ?_
              refine x_get 4 dX9_draw_65 fl_X9_27 hx rfl ?_
              refine x_iconst dX9_draw_68 (okI_c rfl) ?_
              refine x_isub dX9_draw_69 (by unfold okI; omega) ?_
              refine x_laload dX9_draw_70 har (by omega) (by omega) ?_
              refine x_goto 75 dX9_draw_71 (by decide) ?_
              refine x_nmJ (fun x1 e_x1 => ?_)
              refine x_lstore (L' := [(6, vJ x1), (4, vJ z), (0, vA x), (1, vI n), (2, vI z), (3, vI mo)]) dX9_draw_75 (Nat.le_of_ble_eq_true rfl) rfl ?_
              refine x_iconst dX9_draw_77 (okI_c rfl) ?_
              refine x_istore (L' := [(8, vI 0), (6, vJ x1), (4, vJ z), (0, vA x), (1, vI n), (2, vI z), (3, vI mo)]) dX9_draw_78 (Nat.le_of_ble_eq_true rfl) rfl ?_
              have loop_80 : ∀ (k_80 : Nat) (zz : Int) (hv : Int) (i : Int) (fi : Nat → Int) (wi : Nat → Int), (n - i).toNat < k_80 → (0 ≤ i) → (i ≤ n) → (-2147483648 ≤ zz) → (zz ≤ 2147483647) → ((hv = if sRn S + i = 0 then 0 else wi (sRn S + i - 1).toNat)) → (0 ≤ hv) → (hv ≤ 1000000000000 + (sRn S + i) * 1000000) → (∀ t : Int, 0 ≤ t → t < sRn S + i → fi t.toNat = wi t.toNat) → (drw mo (n - i).toNat zz (sRn S + i) wi = drw mo n.toNat z (sRn S) (sRw S)) → EX G mX9_draw d 0 0 (COut x ac ar rr cr ta tm mk md on ot lo hi h vI (oDraw n z mo S)) 80 [(0, vA x), (1, vI n), (3, vI mo), (4, vJ zz), (6, vJ hv), (8, vI i)] [] (hset (hset h ar (eJ 300 fi)) x (eO 8 [vA ac, vI ((sCu S)), vI ((sMu S)), vA ar, vI ((sRn S + i)), vA rr, vI ((sSv S)), vA ta, vA mk, vI ((sLt S))])) 0 0 := by
                intro k_80
                induction k_80 with
                | zero => intro zz hv i fi wi hm; exact absurd hm (Nat.not_lt_zero _)
                | succ k_80 ih_80 =>
                  intro zz hv i fi wi hm_80 hi0 hin hz0 hz1 hhv hb0 hb1 hag hdr
                  refine x_iload 5 dX9_draw_80 rfl ?_
                  refine x_iload_n 1 dX9_draw_82 rfl rfl ?_
                  refine x_icmp_ge 156 dX9_draw_83 (by decide) (fun c_83 => ?_) (fun c_83 => ?_)
                  · have hfin : (sRn S + i, wi) = drw mo n.toNat z (sRn S) (sRw S) := by rw [← hdr, show (n - i).toNat = 0 by omega]; rfl
                    refine x_aload_n 0 dX9_draw_156 rfl rfl ?_
                    refine x_aload_n 0 dX9_draw_157 rfl rfl ?_
                    refine x_get 4 dX9_draw_158 fl_X9_27 (hset_eq _ _ _) rfl ?_
                    refine x_callV [vI ((sRn S + i))] dX9_draw_161 kv_X9_63 rfl rfl (hset_eq _ _ _) (by omega) (Nat.le_of_ble_eq_true rfl) (by omega) (by omega) (k_X9_granted (d := 0) (S := sRow (sRn S + i) wi S) (h := (hset (hset h ar (eJ 300 fi)) x (eO 8 [vA ac, vI ((sCu S)), vI ((sMu S)), vA ar, vI ((sRn S + i)), vA rr, vI ((sSv S)), vA ta, vA mk, vI ((sLt S))]))) (⟨⟨o1, o2, o3, o4, o5, o6, o7, o8, o9, oA, oB, oC, (by rw [hset_ne _ _ (show hi - 1 ≠ x by omega), hset_ne _ _ (show hi - 1 ≠ ar by omega)]; exact oD)⟩, (hset_eq _ _ _), ⟨fc, ((hset_ne _ _ (by omega)).trans ((hset_ne _ _ (by omega)).trans hac)), (fun i q1 q2 => ((hcs i q1 q2).keep (by omega)).keep (by omega))⟩, ⟨fi, ((hset_ne _ _ (by omega)).trans (hset_eq _ _ _)), hag⟩, ⟨cm, ((hset_ne _ _ (by omega)).trans ((hset_ne _ _ (by omega)).trans hrr)), ((hset_ne _ _ (by omega)).trans ((hset_ne _ _ (by omega)).trans hcr)), hcm⟩, ⟨gt, ((hset_ne _ _ (by omega)).trans ((hset_ne _ _ (by omega)).trans hta)), ((hset_ne _ _ (by omega)).trans ((hset_ne _ _ (by omega)).trans htm)), htl⟩, ((hset_ne _ _ (by omega)).trans ((hset_ne _ _ (by omega)).trans hmk)), ⟨_, ((hset_ne _ _ (by omega)).trans ((hset_ne _ _ (by omega)).trans hmd))⟩, ⟨_, ((hset_ne _ _ (by omega)).trans ((hset_ne _ _ (by omega)).trans hon))⟩, ⟨_, ((hset_ne _ _ (by omega)).trans ((hset_ne _ _ (by omega)).trans hot))⟩⟩)) (fun r1 h1 q1 => ?_)
                    obtain ⟨rfl, hCz, hFz⟩ := q1
                    exact x_ireturn dX9_draw_164 rfl (by omega) (by omega) (outC (by rw [oDraw, if_neg (by omega), if_neg (by omega), ← hfin, show sRn S + n = sRn S + i by omega]; rfl) hCz (Fr.trans (Fr.set (Fr.set Fr.refl (by omega)) (by omega)) hFz))
                  · refine x_aload_n 0 dX9_draw_86 rfl rfl ?_
                    refine x_get 4 dX9_draw_87 fl_X9_27 (hset_eq _ _ _) rfl ?_
                    refine x_aload_n 0 dX9_draw_90 rfl rfl ?_
                    refine x_get 3 dX9_draw_91 fl_X9_23 (hset_eq _ _ _) rfl ?_
                    refine x_alenJ dX9_draw_94 ((hset_ne _ _ (by omega)).trans (hset_eq _ _ _)) (by omega) ?_
                    refine x_icmp_ge 156 dX9_draw_95 (by decide) (fun c_95 => (by exfalso; omega)) (fun c_95 => ?_)
                    refine x_lload 3 dX9_draw_98 rfl ?_
                    refine x_ldc2 (n := 1103515245) dX9_draw_100 (okJ_c rfl) kc_X9_67 ?_
                    refine x_lmul dX9_draw_103 (by unfold okJ; omega) ?_
                    refine x_ldc2 (n := 12345) dX9_draw_104 (okJ_c rfl) kc_X9_69 ?_
                    refine x_ladd dX9_draw_107 (by unfold okJ; omega) ?_
                    refine x_ldc2 (n := 2147483647) dX9_draw_108 (okJ_c rfl) kc_X9_71 ?_
                    refine x_land (v := (zz * 1103515245 + 12345) % 2147483648) dX9_draw_111 (by unfold okJ; omega) (land31 _) ?_
                    refine x_nmJ (fun z2 e_z2 => ?_)
                    refine x_lstore (L' := [(4, vJ z2), (0, vA x), (1, vI n), (3, vI mo), (6, vJ hv), (8, vI i)]) dX9_draw_112 (Nat.le_of_ble_eq_true rfl) rfl ?_
                    refine x_lload 4 dX9_draw_114 rfl ?_
                    refine x_lload 0 dX9_draw_116 rfl ?_
                    refine x_bipush dX9_draw_118 (okI_c rfl) (by decide +kernel) ?_
                    refine x_lshr (v := z2 / 256) dX9_draw_120 (by unfold okJ; omega) (shr8 (by omega) (by omega)) ?_
                    refine x_iload_n 3 dX9_draw_121 rfl rfl ?_
                    refine x_iconst dX9_draw_122 (okI_c rfl) ?_
                    refine x_iadd dX9_draw_123 (by unfold okI; omega) ?_
                    refine x_i2l dX9_draw_124 ?_
                    refine x_lrem dX9_draw_125 (by omega) (by omega) ?_
                    have hu := modB (x := z2 / 256) (y := mo + 1) (by omega)
                    refine x_nmJ (fun u e_u => ?_)
                    refine x_ladd dX9_draw_126 (by unfold okJ; omega) ?_
                    rw [← e_u] at hu
                    refine x_nmJ (fun hv2 e_hv2 => ?_)
                    refine x_lstore (L' := [(6, vJ hv2), (4, vJ z2), (0, vA x), (1, vI n), (3, vI mo), (8, vI i)]) dX9_draw_127 (Nat.le_of_ble_eq_true rfl) rfl ?_
                    refine x_aload_n 2 dX9_draw_129 rfl rfl ?_
                    refine x_get 3 dX9_draw_130 fl_X9_23 (hset_eq _ _ _) rfl ?_
                    refine x_aload_n 2 dX9_draw_133 rfl rfl ?_
                    refine x_get 4 dX9_draw_134 fl_X9_27 (hset_eq _ _ _) rfl ?_
                    refine x_lload 0 dX9_draw_137 rfl ?_
                    refine x_lastore dX9_draw_139 ((hset_ne _ _ (by omega)).trans (hset_eq _ _ _)) (by omega) (by omega) ?_
                    refine x_aload_n 2 dX9_draw_140 rfl rfl ?_
                    refine x_dup dX9_draw_141 rfl ?_
                    refine x_get 4 dX9_draw_142 fl_X9_27 ((hset_ne _ _ (by omega)).trans (hset_eq _ _ _)) rfl ?_
                    refine x_iconst dX9_draw_145 (okI_c rfl) ?_
                    refine x_iadd dX9_draw_146 (by unfold okI; omega) ?_
                    refine x_put 4 dX9_draw_147 pu_X9_27 ((hset_ne _ _ (by omega)).trans (hset_eq _ _ _)) rfl rfl (Nat.le_of_ble_eq_true rfl) ?_
                    refine x_iinc 5 (L' := [(8, vI (i + 1)), (6, vJ hv2), (4, vJ z2), (0, vA x), (1, vI n), (3, vI mo)]) dX9_draw_150 rfl (by unfold okI; omega) (Nat.le_of_ble_eq_true rfl) rfl ?_
                    refine x_goto 80 dX9_draw_153 (by decide) ?_
                    exact EX.pick [3, 4, 5, 2, 1, 0] rfl (x_ash (by rw [hset4 _ _ _ _ _ (by omega), show sRn S + i + 1 = sRn S + (i + 1) by omega]; rfl) (ih_80 z2 hv2 (i + 1) (va_up fi (sRn S + i).toNat hv2) (va_up wi (sRn S + i).toNat hv2) (by omega) (by omega) (by omega) (by omega) (by omega) (by rw [if_neg (by omega), show sRn S + (i + 1) - 1 = sRn S + i by omega, va_up_self]) (by omega) (by omega) (fun t q1 q2 => by by_cases q : t = sRn S + i; subst q; rw [va_up_self, va_up_self]; rw [va_up_ne _ _ (by omega), va_up_ne _ _ (by omega)]; exact hag t q1 (by omega)) (by rw [← hdr, show (n - i).toNat = (n - (i + 1)).toNat + 1 by omega, drw, ← e_z2, ← e_u, ← hhv, ← e_hv2, show sRn S + i + 1 = sRn S + (i + 1) by omega])))
              exact EX.pick [3, 4, 6, 2, 1, 0] rfl (x_ash (show h = (hset (hset h ar (eJ 300 fr)) x (eO 8 [vA ac, vI ((sCu S)), vI ((sMu S)), vA ar, vI ((sRn S + 0)), vA rr, vI ((sSv S)), vA ta, vA mk, vI ((sLt S))])) from by rw [Int.add_zero, hset_self har, hset_self hx]) (loop_80 ((n - (0 : Int)).toNat + 1) z x1 0 fr (sRw S) (Nat.lt_succ_self _) (by omega) (by omega) (by unfold okI at okz; omega) (by unfold okI at okz; omega) (by rw [if_neg (by omega), Int.add_zero, e_x1]; exact hrw _ (by omega) (by omega)) (by rw [e_x1, hrw _ (by omega) (by omega)]; exact (s8 _ (by omega) (by omega)).1) (by rw [e_x1, hrw _ (by omega) (by omega)]; have := (s8 (sRn S - 1) (by omega) (by omega)).2; omega) (fun t q1 q2 => hrw t q1 (by omega)) (by rw [Int.sub_zero, Int.add_zero])))
          · refine x_aload_n 0 dX9_draw_42 rfl rfl ?_
            refine x_bipush dX9_draw_43 (okI_c rfl) (by decide +kernel) ?_
            refine x_callV [vI ((-3))] dX9_draw_45 kv_X9_59 rfl rfl hx (by omega) (Nat.le_of_ble_eq_true rfl) (by omega) (by omega) (k_X9_refused (d := 0) (S := S)  (hC)) (fun r1 h1 q1 => ?_)
            obtain ⟨rfl, hCz, hFz⟩ := q1
            exact x_ireturn dX9_draw_48 rfl (by omega) (by omega) (outC (by rw [oDraw, if_neg (by omega), if_pos (by omega)]; rfl) hCz (Fr.trans Fr.refl hFz))
        · refine x_aload_n 0 dX9_draw_22 rfl rfl ?_
          refine x_iconst dX9_draw_23 (okI_c rfl) ?_
          refine x_callV [vI ((-1))] dX9_draw_24 kv_X9_59 rfl rfl hx (by omega) (Nat.le_of_ble_eq_true rfl) (by omega) (by omega) (k_X9_refused (d := 0) (S := S)  (hC)) (fun r1 h1 q1 => ?_)
          obtain ⟨rfl, hCz, hFz⟩ := q1
          exact x_ireturn dX9_draw_27 rfl (by omega) (by omega) (outC (by rw [oDraw, if_pos (by omega)]; rfl) hCz (Fr.trans Fr.refl hFz))
