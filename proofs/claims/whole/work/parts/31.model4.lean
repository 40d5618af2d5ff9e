/-! ===== FlowCurvesModel: the row and the run ===== -/
theorem wrI (x : Int) : Int32.ofInt x = Int32.ofInt ((x + 2147483648) % 4294967296 - 2147483648) := by
  apply Int32.toBitVec_inj.1
  rw [Int32.toBitVec_ofInt, Int32.toBitVec_ofInt]
  apply BitVec.eq_of_toNat_eq
  rw [BitVec.toNat_ofInt, BitVec.toNat_ofInt]
  omega
theorem iand31 (x : Int) : Int32.ofInt x &&& Int32.ofInt 2147483647 = Int32.ofInt (x % 2147483648) := by
  apply Int32.toBitVec_inj.1
  rw [Int32.toBitVec_and, Int32.toBitVec_ofInt, Int32.toBitVec_ofInt, Int32.toBitVec_ofInt]
  apply BitVec.eq_of_toNat_eq
  rw [BitVec.toNat_and, BitVec.toNat_ofInt, BitVec.toNat_ofInt, BitVec.toNat_ofInt]
  have e : ((2147483647 : Int) % ((2 ^ 32 : Nat) : Int)).toNat = 2 ^ 31 - 1 := by decide
  rw [e, Nat.and_two_pow_sub_one_eq_mod]
  omega
theorem ishr8 {x : Int} (h0 : 0 ≤ x) (h1 : x < 2147483648) : Int32.ofInt x >>> (Int32.ofInt 8 &&& 31) = Int32.ofInt (x / 256) := by
  have e : (Int32.ofInt 8 &&& 31) = (8 : Int32) := by decide
  rw [e]
  apply Int32.toInt_inj.1
  rw [← Int32.toInt_toBitVec, Int32.toBitVec_shiftRight]
  have e2 : ((8 : Int32).toBitVec.smod 32) = 8#32 := by decide
  rw [e2]
  show (BitVec.sshiftRight (Int32.ofInt x).toBitVec 8).toInt = _
  rw [BitVec.toInt_sshiftRight, Int32.toInt_toBitVec, Int32.toInt_ofInt_of_le (by omega) (by omega), Int32.toInt_ofInt_of_le (by omega) (by omega), Int.shiftRight_eq_div_pow]
  rfl
theorem lateS_ge {n t : Int} {sm : Nat → Int} {G : Int → Int} : -1 ≤ lateS n sm G t := by
  rcases firstS_spec (fun w => servS n sm G (t + w)) (arrS n sm t) 500 with z | z
  · have := z.1; unfold lateS; omega
  · have := z.1; unfold lateS; omega
theorem lateS_le {n t : Int} {sm : Nat → Int} {G : Int → Int} : lateS n sm G t ≤ 500 := by
  rcases firstS_spec (fun w => servS n sm G (t + w)) (arrS n sm t) 500 with z | z
  · have := z.1; unfold lateS; omega
  · have := z.2.1; unfold lateS; omega
set_option maxRecDepth 100000 in
set_option maxHeartbeats 4000000 in
theorem k_X10_put {G : aG} {d : Nat} (hd : 5 ≤ d) {m b1 b2 b3 b4 b5 b6 b7 b8 b9 lo hi : Nat} {S : aS} {nc : Nat} {h : aH} (hM : MRel m b1 b2 b3 b4 b5 b6 b7 b8 b9 lo hi S h) (hS : SOk nc S) {v : Int} : MC G mX10_put d 0 0 [vA m, vJ v] h (MOut m b1 b2 b3 b4 b5 b6 b7 b8 b9 lo hi h vI (oPut v S)) := by
  obtain ⟨⟨o0, o1, o2, o3, o4, o5, o6, o7, o8, o9, oA⟩, hm, ⟨gT, gD, gC, gK, gA, hb1, hb2, hb3, hb4, hb5, hcu⟩, ⟨fr, hb6, hrw⟩, ⟨sm, hb7, hsm⟩, ⟨g8, hb8, htl⟩, ⟨gw, hb9⟩⟩ := id hM
  obtain ⟨⟨s1, s2⟩, s3, ⟨s4, s5⟩, ⟨s6, s7, s8⟩, s9, ⟨s10, s11⟩, s12⟩ := id hS
  refine MC.of (by decide) (Nat.le_of_ble_eq_true rfl) (fun ok okh => ?_)
  show EX G mX10_put d 0 0 _ 0 [(0, vA m), (1, vJ v)] [] h 0 0
  refine x_lload_n 1 dX10_put_0 rfl rfl ?_
  refine x_lconst (x := 0) dX10_put_1 (okJ_c rfl) rfl ?_
  refine x_ldc2 (n := 1000000000000) dX10_put_2 (okJ_c rfl) kc_X10_64 ?_
  refine x_callS [vJ v, vJ 0, vJ 1000000000000] dX10_put_5 ks_X10_50 rfl rfl (by omega) (Nat.le_of_ble_eq_true rfl) (by omega) (by omega) (k_X10_in (d := 0)) (after_ret ?_)
  refine x_if_ne 17 dX10_put_8 (by decide) (fun c_8 => ?_) (fun c_8 => ?_)
  · have p_8 := b2i_ne c_8
    refine x_aload_n 0 dX10_put_17 rfl rfl ?_
    refine x_get 8 dX10_put_18 fl_X10_76 hm rfl ?_
    refine x_sipush dX10_put_21 (okI_c rfl) (by decide +kernel) ?_
    refine x_icmp_ne 34 dX10_put_24 (by decide) (fun c_24 => ?_) (fun c_24 => ?_)
    · refine x_aload_n 0 dX10_put_34 rfl rfl ?_
      refine x_get 7 dX10_put_35 fl_X10_26 hm rfl ?_
      refine x_aload_n 0 dX10_put_38 rfl rfl ?_
      refine x_get 8 dX10_put_39 fl_X10_76 hm rfl ?_
      refine x_lload_n 1 dX10_put_42 rfl rfl ?_
      refine x_lastore dX10_put_43 hb6 (by omega) (by omega) ?_
      refine x_aload_n 0 dX10_put_44 rfl rfl ?_
      refine x_dup dX10_put_45 rfl ?_
      refine x_get 8 dX10_put_46 fl_X10_76 ((hset_ne _ _ (by omega)).trans hm) rfl ?_
      refine x_iconst dX10_put_49 (okI_c rfl) ?_
      refine x_iadd dX10_put_50 (by unfold okI; omega) ?_
      refine x_put 8 dX10_put_51 pu_X10_76 ((hset_ne _ _ (by omega)).trans hm) rfl rfl (Nat.le_of_ble_eq_true rfl) ?_
      refine x_aload_n 0 dX10_put_54 rfl rfl ?_
      refine x_aload_n 0 dX10_put_55 rfl rfl ?_
      refine x_get 8 dX10_put_56 fl_X10_76 (hset_eq _ _ _) rfl ?_
      refine x_callV [vI (((sRn S)) + 1)] dX10_put_59 kv_X10_73 rfl rfl (hset_eq _ _ _) (by omega) (Nat.le_of_ble_eq_true rfl) (by omega) (by omega) (k_X10_fine (d := 0) (S := sRow (sRn S + 1) (va_up (sRw S) (sRn S).toNat v) S) (h := (hset (hset h b6 (eJ 300 (va_up fr ((sRn S)).toNat v))) m (eO 9 [vI ((sCu S)), vA b1, vA b2, vA b3, vA b4, vA b5, vI ((sMu S)), vA b6, vI (((sRn S)) + 1), vA b7, vI ((sSn S)), vI ((sSv S)), vA b8, vI ((sLt S)), vA b9]))) (⟨⟨o0, o1, o2, o3, o4, o5, o6, o7, o8, o9, oA⟩, (hset_eq _ _ _), ⟨gT, gD, gC, gK, gA, ((hset_ne _ _ (by omega)).trans ((hset_ne _ _ (by omega)).trans hb1)), ((hset_ne _ _ (by omega)).trans ((hset_ne _ _ (by omega)).trans hb2)), ((hset_ne _ _ (by omega)).trans ((hset_ne _ _ (by omega)).trans hb3)), ((hset_ne _ _ (by omega)).trans ((hset_ne _ _ (by omega)).trans hb4)), ((hset_ne _ _ (by omega)).trans ((hset_ne _ _ (by omega)).trans hb5)), hcu⟩, ⟨(va_up fr ((sRn S)).toNat v), ((hset_ne _ _ (by omega)).trans (hset_eq _ _ _)), (fun t q1 q2 => by by_cases q : t = sRn S; subst q; exact (va_up_self _ _ _).trans (va_up_self _ _ _).symm; exact ((va_up_ne _ _ (by omega)).trans (hrw t q1 (by have q3 : t < sRn S + 1 := q2; omega))).trans (va_up_ne _ _ (by omega)).symm)⟩, ⟨sm, ((hset_ne _ _ (by omega)).trans ((hset_ne _ _ (by omega)).trans hb7)), hsm⟩, ⟨g8, ((hset_ne _ _ (by omega)).trans ((hset_ne _ _ (by omega)).trans hb8)), htl⟩, ⟨_, ((hset_ne _ _ (by omega)).trans ((hset_ne _ _ (by omega)).trans hb9))⟩⟩)) (fun r1 h1 q1 => ?_)
      obtain ⟨rfl, hCz, hFz⟩ := q1
      exact x_ireturn dX10_put_62 rfl (by omega) (by omega) (outM (by rw [oPut, if_neg (by omega), if_neg (by omega)]; rfl) hCz (MFr.trans (MFr.set (MFr.set MFr.refl (by omega) (by omega)) (by omega) (by omega)) hFz))
    · refine x_aload_n 0 dX10_put_27 rfl rfl ?_
      refine x_bipush dX10_put_28 (okI_c rfl) (by decide +kernel) ?_
      refine x_callV [vI ((-3))] dX10_put_30 kv_X10_58 rfl rfl hm (by omega) (Nat.le_of_ble_eq_true rfl) (by omega) (by omega) (k_X10_refuse (d := 0) (S := S)  (hM)) (fun r1 h1 q1 => ?_)
      obtain ⟨rfl, hCz, hFz⟩ := q1
      exact x_ireturn dX10_put_33 rfl (by omega) (by omega) (outM (by rw [oPut, if_neg (by omega), if_pos (by omega)]; rfl) hCz (MFr.trans MFr.refl hFz))
  · have p_8 := b2i_eq c_8
    refine x_aload_n 0 dX10_put_11 rfl rfl ?_
    refine x_iconst dX10_put_12 (okI_c rfl) ?_
    refine x_callV [vI ((-1))] dX10_put_13 kv_X10_58 rfl rfl hm (by omega) (Nat.le_of_ble_eq_true rfl) (by omega) (by omega) (k_X10_refuse (d := 0) (S := S)  (hM)) (fun r1 h1 q1 => ?_)
    obtain ⟨rfl, hCz, hFz⟩ := q1
    exact x_ireturn dX10_put_16 rfl (by omega) (by omega) (outM (by rw [oPut, if_pos (by omega)]; rfl) hCz (MFr.trans MFr.refl hFz))
set_option maxRecDepth 100000 in
set_option maxHeartbeats 4000000 in
theorem k_X10_drop {G : aG} {d : Nat} (hd : 5 ≤ d) {m b1 b2 b3 b4 b5 b6 b7 b8 b9 lo hi : Nat} {S : aS} {nc : Nat} {h : aH} (hM : MRel m b1 b2 b3 b4 b5 b6 b7 b8 b9 lo hi S h) (hS : SOk nc S)  : MC G mX10_drop d 0 0 [vA m] h (MOut m b1 b2 b3 b4 b5 b6 b7 b8 b9 lo hi h vI (oDrop S)) := by
  obtain ⟨⟨o0, o1, o2, o3, o4, o5, o6, o7, o8, o9, oA⟩, hm, ⟨gT, gD, gC, gK, gA, hb1, hb2, hb3, hb4, hb5, hcu⟩, ⟨fr, hb6, hrw⟩, ⟨sm, hb7, hsm⟩, ⟨g8, hb8, htl⟩, ⟨gw, hb9⟩⟩ := id hM
  obtain ⟨⟨s1, s2⟩, s3, ⟨s4, s5⟩, ⟨s6, s7, s8⟩, s9, ⟨s10, s11⟩, s12⟩ := id hS
  refine MC.of (by decide) (Nat.le_of_ble_eq_true rfl) (fun ok okh => ?_)
  show EX G mX10_drop d 0 0 _ 0 [(0, vA m)] [] h 0 0
  refine x_aload_n 0 dX10_drop_0 rfl rfl ?_
  refine x_get 8 dX10_drop_1 fl_X10_76 hm rfl ?_
  refine x_nmI (fun x1 e_x1 => ?_)
  refine x_istore_n (L' := [(1, vI x1), (0, vA m)]) dX10_drop_4 rfl (Nat.le_of_ble_eq_true rfl) rfl ?_
  refine x_aload_n 1 dX10_drop_5 rfl rfl ?_
  refine x_iconst dX10_drop_6 (okI_c rfl) ?_
  refine x_put 8 dX10_drop_7 pu_X10_76 hm rfl rfl (Nat.le_of_ble_eq_true rfl) ?_
  refine x_aload_n 1 dX10_drop_10 rfl rfl ?_
  refine x_iload_n 0 dX10_drop_11 rfl rfl ?_
  refine x_callV [vI x1] dX10_drop_12 kv_X10_73 rfl rfl (hset_eq _ _ _) (by omega) (Nat.le_of_ble_eq_true rfl) (by omega) (by omega) (k_X10_fine (d := 0) (S := sRow 0 (sRw S) S) (h := (hset h m (eO 9 [vI ((sCu S)), vA b1, vA b2, vA b3, vA b4, vA b5, vI ((sMu S)), vA b6, vI 0, vA b7, vI ((sSn S)), vI ((sSv S)), vA b8, vI ((sLt S)), vA b9]))) (⟨⟨o0, o1, o2, o3, o4, o5, o6, o7, o8, o9, oA⟩, (hset_eq _ _ _), ⟨gT, gD, gC, gK, gA, ((hset_ne _ _ (by omega)).trans hb1), ((hset_ne _ _ (by omega)).trans hb2), ((hset_ne _ _ (by omega)).trans hb3), ((hset_ne _ _ (by omega)).trans hb4), ((hset_ne _ _ (by omega)).trans hb5), hcu⟩, ⟨fr, ((hset_ne _ _ (by omega)).trans hb6), (fun t q1 q2 => by have q3 : t < 0 := q2; omega)⟩, ⟨sm, ((hset_ne _ _ (by omega)).trans hb7), hsm⟩, ⟨g8, ((hset_ne _ _ (by omega)).trans hb8), htl⟩, ⟨_, ((hset_ne _ _ (by omega)).trans hb9)⟩⟩)) (fun r1 h1 q1 => ?_)
  obtain ⟨rfl, hCz, hFz⟩ := q1
  exact x_ireturn dX10_drop_15 rfl (by omega) (by omega) (outM (by rw [oDrop, e_x1]; rfl) hCz (MFr.trans (MFr.set MFr.refl (by omega) (by omega)) hFz))
set_option maxRecDepth 100000 in
set_option maxHeartbeats 4000000 in
theorem k_X10_stop {G : aG} {d : Nat} (hd : 5 ≤ d) {m b1 b2 b3 b4 b5 b6 b7 b8 b9 lo hi : Nat} {S : aS} {nc : Nat} {h : aH} (hM : MRel m b1 b2 b3 b4 b5 b6 b7 b8 b9 lo hi S h) (hS : SOk nc S)  : MC G mX10_stop d 0 0 [vA m] h (MOut m b1 b2 b3 b4 b5 b6 b7 b8 b9 lo hi h vI (oStop S)) := by
  obtain ⟨⟨o0, o1, o2, o3, o4, o5, o6, o7, o8, o9, oA⟩, hm, ⟨gT, gD, gC, gK, gA, hb1, hb2, hb3, hb4, hb5, hcu⟩, ⟨fr, hb6, hrw⟩, ⟨sm, hb7, hsm⟩, ⟨g8, hb8, htl⟩, ⟨gw, hb9⟩⟩ := id hM
  obtain ⟨⟨s1, s2⟩, s3, ⟨s4, s5⟩, ⟨s6, s7, s8⟩, s9, ⟨s10, s11⟩, s12⟩ := id hS
  refine MC.of (by decide) (Nat.le_of_ble_eq_true rfl) (fun ok okh => ?_)
  show EX G mX10_stop d 0 0 _ 0 [(0, vA m)] [] h 0 0
  refine x_aload_n 0 dX10_stop_0 rfl rfl ?_
  refine x_get 10 dX10_stop_1 fl_X10_147 hm rfl ?_
  refine x_nmI (fun x1 e_x1 => ?_)
  refine x_istore_n (L' := [(1, vI x1), (0, vA m)]) dX10_stop_4 rfl (Nat.le_of_ble_eq_true rfl) rfl ?_
  refine x_aload_n 1 dX10_stop_5 rfl rfl ?_
  refine x_iconst dX10_stop_6 (okI_c rfl) ?_
  refine x_put 10 dX10_stop_7 pu_X10_147 hm rfl rfl (Nat.le_of_ble_eq_true rfl) ?_
  refine x_aload_n 1 dX10_stop_10 rfl rfl ?_
  refine x_iload_n 0 dX10_stop_11 rfl rfl ?_
  refine x_callV [vI x1] dX10_stop_12 kv_X10_73 rfl rfl (hset_eq _ _ _) (by omega) (Nat.le_of_ble_eq_true rfl) (by omega) (by omega) (k_X10_fine (d := 0) (S := sRun 0 (sSm S) S) (h := (hset h m (eO 9 [vI ((sCu S)), vA b1, vA b2, vA b3, vA b4, vA b5, vI ((sMu S)), vA b6, vI ((sRn S)), vA b7, vI 0, vI ((sSv S)), vA b8, vI ((sLt S)), vA b9]))) (⟨⟨o0, o1, o2, o3, o4, o5, o6, o7, o8, o9, oA⟩, (hset_eq _ _ _), ⟨gT, gD, gC, gK, gA, ((hset_ne _ _ (by omega)).trans hb1), ((hset_ne _ _ (by omega)).trans hb2), ((hset_ne _ _ (by omega)).trans hb3), ((hset_ne _ _ (by omega)).trans hb4), ((hset_ne _ _ (by omega)).trans hb5), hcu⟩, ⟨fr, ((hset_ne _ _ (by omega)).trans hb6), hrw⟩, ⟨sm, ((hset_ne _ _ (by omega)).trans hb7), (fun k q1 q2 => by have q3 : k < 0 := q2; omega)⟩, ⟨g8, ((hset_ne _ _ (by omega)).trans hb8), htl⟩, ⟨_, ((hset_ne _ _ (by omega)).trans hb9)⟩⟩)) (fun r1 h1 q1 => ?_)
  obtain ⟨rfl, hCz, hFz⟩ := q1
  exact x_ireturn dX10_stop_15 rfl (by omega) (by omega) (outM (by rw [oStop, e_x1]; rfl) hCz (MFr.trans (MFr.set MFr.refl (by omega) (by omega)) hFz))
set_option maxRecDepth 100000 in
set_option maxHeartbeats 4000000 in
theorem k_X10_come {G : aG} {d : Nat} (hd : 5 ≤ d) {m b1 b2 b3 b4 b5 b6 b7 b8 b9 lo hi : Nat} {S : aS} {nc : Nat} {h : aH} (hM : MRel m b1 b2 b3 b4 b5 b6 b7 b8 b9 lo hi S h) (hS : SOk nc S) {a : Int} : MC G mX10_come d 0 0 [vA m, vI a] h (MOut m b1 b2 b3 b4 b5 b6 b7 b8 b9 lo hi h vI (oCome a S)) := by
  obtain ⟨⟨o0, o1, o2, o3, o4, o5, o6, o7, o8, o9, oA⟩, hm, ⟨gT, gD, gC, gK, gA, hb1, hb2, hb3, hb4, hb5, hcu⟩, ⟨fr, hb6, hrw⟩, ⟨sm, hb7, hsm⟩, ⟨g8, hb8, htl⟩, ⟨gw, hb9⟩⟩ := id hM
  obtain ⟨⟨s1, s2⟩, s3, ⟨s4, s5⟩, ⟨s6, s7, s8⟩, s9, ⟨s10, s11⟩, s12⟩ := id hS
  refine MC.of (by decide) (Nat.le_of_ble_eq_true rfl) (fun ok okh => ?_)
  show EX G mX10_come d 0 0 _ 0 [(0, vA m), (1, vI a)] [] h 0 0
  refine x_iload_n 1 dX10_come_0 rfl rfl ?_
  refine x_i2l dX10_come_1 ?_
  refine x_lconst (x := 0) dX10_come_2 (okJ_c rfl) rfl ?_
  refine x_ldc2 (n := 1000000000) dX10_come_3 (okJ_c rfl) kc_X10_62 ?_
  refine x_callS [vJ a, vJ 0, vJ 1000000000] dX10_come_6 ks_X10_50 rfl rfl (by omega) (Nat.le_of_ble_eq_true rfl) (by omega) (by omega) (k_X10_in (d := 0)) (after_ret ?_)
  refine x_if_ne 18 dX10_come_9 (by decide) (fun c_9 => ?_) (fun c_9 => ?_)
  · have p_9 := b2i_ne c_9
    have w1 := s9.1
    have w2 := s9.2.1
    refine x_aload_n 0 dX10_come_18 rfl rfl ?_
    refine x_get 10 dX10_come_19 fl_X10_147 hm rfl ?_
    refine x_bipush dX10_come_22 (okI_c rfl) (by decide +kernel) ?_
    refine x_icmp_ne 34 dX10_come_24 (by decide) (fun c_24 => ?_) (fun c_24 => ?_)
    · refine x_aload_n 0 dX10_come_34 rfl rfl ?_
      refine x_get 9 dX10_come_35 fl_X10_29 hm rfl ?_
      refine x_aload_n 0 dX10_come_38 rfl rfl ?_
      refine x_get 10 dX10_come_39 fl_X10_147 hm rfl ?_
      refine x_iload_n 1 dX10_come_42 rfl rfl ?_
      refine x_i2l dX10_come_43 ?_
      refine x_lastore dX10_come_44 hb7 (by omega) (by omega) ?_
      refine x_aload_n 0 dX10_come_45 rfl rfl ?_
      refine x_dup dX10_come_46 rfl ?_
      refine x_get 10 dX10_come_47 fl_X10_147 ((hset_ne _ _ (by omega)).trans hm) rfl ?_
      refine x_iconst dX10_come_50 (okI_c rfl) ?_
      refine x_iadd dX10_come_51 (by unfold okI; omega) ?_
      refine x_put 10 dX10_come_52 pu_X10_147 ((hset_ne _ _ (by omega)).trans hm) rfl rfl (Nat.le_of_ble_eq_true rfl) ?_
      refine x_aload_n 0 dX10_come_55 rfl rfl ?_
      refine x_aload_n 0 dX10_come_56 rfl rfl ?_
      refine x_get 10 dX10_come_57 fl_X10_147 (hset_eq _ _ _) rfl ?_
      refine x_callV [vI (((sSn S)) + 1)] dX10_come_60 kv_X10_73 rfl rfl (hset_eq _ _ _) (by omega) (Nat.le_of_ble_eq_true rfl) (by omega) (by omega) (k_X10_fine (d := 0) (S := sRun (sSn S + 1) (va_up (sSm S) (sSn S).toNat a) S) (h := (hset (hset h b7 (eJ 60 (va_up sm ((sSn S)).toNat a))) m (eO 9 [vI ((sCu S)), vA b1, vA b2, vA b3, vA b4, vA b5, vI ((sMu S)), vA b6, vI ((sRn S)), vA b7, vI (((sSn S)) + 1), vI ((sSv S)), vA b8, vI ((sLt S)), vA b9]))) (⟨⟨o0, o1, o2, o3, o4, o5, o6, o7, o8, o9, oA⟩, (hset_eq _ _ _), ⟨gT, gD, gC, gK, gA, ((hset_ne _ _ (by omega)).trans ((hset_ne _ _ (by omega)).trans hb1)), ((hset_ne _ _ (by omega)).trans ((hset_ne _ _ (by omega)).trans hb2)), ((hset_ne _ _ (by omega)).trans ((hset_ne _ _ (by omega)).trans hb3)), ((hset_ne _ _ (by omega)).trans ((hset_ne _ _ (by omega)).trans hb4)), ((hset_ne _ _ (by omega)).trans ((hset_ne _ _ (by omega)).trans hb5)), hcu⟩, ⟨fr, ((hset_ne _ _ (by omega)).trans ((hset_ne _ _ (by omega)).trans hb6)), hrw⟩, ⟨(va_up sm ((sSn S)).toNat a), ((hset_ne _ _ (by omega)).trans (hset_eq _ _ _)), (fun t q1 q2 => by by_cases q : t = sSn S; subst q; exact (va_up_self _ _ _).trans (va_up_self _ _ _).symm; have := s9.1; exact ((va_up_ne _ _ (by omega)).trans (hsm t q1 (by have q3 : t < sSn S + 1 := q2; omega))).trans (va_up_ne _ _ (by omega)).symm)⟩, ⟨g8, ((hset_ne _ _ (by omega)).trans ((hset_ne _ _ (by omega)).trans hb8)), htl⟩, ⟨_, ((hset_ne _ _ (by omega)).trans ((hset_ne _ _ (by omega)).trans hb9))⟩⟩)) (fun r1 h1 q1 => ?_)
      obtain ⟨rfl, hCz, hFz⟩ := q1
      exact x_ireturn dX10_come_63 rfl (by omega) (by omega) (outM (by rw [oCome, if_neg (by omega), if_neg (by omega)]; rfl) hCz (MFr.trans (MFr.set (MFr.set MFr.refl (by omega) (by omega)) (by omega) (by omega)) hFz))
    · refine x_aload_n 0 dX10_come_27 rfl rfl ?_
      refine x_bipush dX10_come_28 (okI_c rfl) (by decide +kernel) ?_
      refine x_callV [vI ((-3))] dX10_come_30 kv_X10_58 rfl rfl hm (by omega) (Nat.le_of_ble_eq_true rfl) (by omega) (by omega) (k_X10_refuse (d := 0) (S := S)  (hM)) (fun r1 h1 q1 => ?_)
      obtain ⟨rfl, hCz, hFz⟩ := q1
      exact x_ireturn dX10_come_33 rfl (by omega) (by omega) (outM (by rw [oCome, if_neg (by omega), if_pos (by omega)]; rfl) hCz (MFr.trans MFr.refl hFz))
  · have p_9 := b2i_eq c_9
    refine x_aload_n 0 dX10_come_12 rfl rfl ?_
    refine x_iconst dX10_come_13 (okI_c rfl) ?_
    refine x_callV [vI ((-1))] dX10_come_14 kv_X10_58 rfl rfl hm (by omega) (Nat.le_of_ble_eq_true rfl) (by omega) (by omega) (k_X10_refuse (d := 0) (S := S)  (hM)) (fun r1 h1 q1 => ?_)
    obtain ⟨rfl, hCz, hFz⟩ := q1
    exact x_ireturn dX10_come_17 rfl (by omega) (by omega) (outM (by rw [oCome, if_pos (by omega)]; rfl) hCz (MFr.trans MFr.refl hFz))
set_option maxRecDepth 100000 in
set_option maxHeartbeats 4000000 in
theorem k_X10_serve {G : aG} {d : Nat} (hd : 5 ≤ d) {m b1 b2 b3 b4 b5 b6 b7 b8 b9 lo hi : Nat} {S : aS} {nc : Nat} {h : aH} (hM : MRel m b1 b2 b3 b4 b5 b6 b7 b8 b9 lo hi S h) (hS : SOk nc S) {g : Int} : MC G mX10_serve d 0 0 [vA m, vI g] h (MOut m b1 b2 b3 b4 b5 b6 b7 b8 b9 lo hi h vI (oServe g S)) := by
  obtain ⟨⟨o0, o1, o2, o3, o4, o5, o6, o7, o8, o9, oA⟩, hm, ⟨gT, gD, gC, gK, gA, hb1, hb2, hb3, hb4, hb5, hcu⟩, ⟨fr, hb6, hrw⟩, ⟨sm, hb7, hsm⟩, ⟨g8, hb8, htl⟩, ⟨gw, hb9⟩⟩ := id hM
  obtain ⟨⟨s1, s2⟩, s3, ⟨s4, s5⟩, ⟨s6, s7, s8⟩, s9, ⟨s10, s11⟩, s12⟩ := id hS
  refine MC.of (by decide) (Nat.le_of_ble_eq_true rfl) (fun ok okh => ?_)
  show EX G mX10_serve d 0 0 _ 0 [(0, vA m), (1, vI g)] [] h 0 0
  refine x_aload_n 0 dX10_serve_0 rfl rfl ?_
  refine x_iload_n 1 dX10_serve_1 rfl rfl ?_
  refine x_callV [vI g] dX10_serve_2 kv_X10_109 rfl rfl hm (by omega) (Nat.le_of_ble_eq_true rfl) (by omega) (by omega) (k_X10_isCurve (d := 1) (by omega) hM hS (f := g)) (after_ret ?_)
  refine x_if_ne 14 dX10_serve_5 (by decide) (fun c_5 => ?_) (fun c_5 => ?_)
  · have p_5 := b2i_ne c_5
    refine x_aload_n 0 dX10_serve_14 rfl rfl ?_
    refine x_iload_n 1 dX10_serve_15 rfl rfl ?_
    refine x_put 11 dX10_serve_16 pu_X10_32 hm rfl rfl (Nat.le_of_ble_eq_true rfl) ?_
    refine x_aload_n 0 dX10_serve_19 rfl rfl ?_
    refine x_iconst dX10_serve_20 (okI_c rfl) ?_
    refine x_callV [vI 1] dX10_serve_21 kv_X10_73 rfl rfl (hset_eq _ _ _) (by omega) (Nat.le_of_ble_eq_true rfl) (by omega) (by omega) (k_X10_fine (d := 0) (S := sSrv g S) (h := (hset h m (eO 9 [vI ((sCu S)), vA b1, vA b2, vA b3, vA b4, vA b5, vI ((sMu S)), vA b6, vI ((sRn S)), vA b7, vI ((sSn S)), vI g, vA b8, vI ((sLt S)), vA b9]))) (⟨⟨o0, o1, o2, o3, o4, o5, o6, o7, o8, o9, oA⟩, (hset_eq _ _ _), ⟨gT, gD, gC, gK, gA, ((hset_ne _ _ (by omega)).trans hb1), ((hset_ne _ _ (by omega)).trans hb2), ((hset_ne _ _ (by omega)).trans hb3), ((hset_ne _ _ (by omega)).trans hb4), ((hset_ne _ _ (by omega)).trans hb5), hcu⟩, ⟨fr, ((hset_ne _ _ (by omega)).trans hb6), hrw⟩, ⟨sm, ((hset_ne _ _ (by omega)).trans hb7), hsm⟩, ⟨g8, ((hset_ne _ _ (by omega)).trans hb8), htl⟩, ⟨_, ((hset_ne _ _ (by omega)).trans hb9)⟩⟩)) (fun r1 h1 q1 => ?_)
    obtain ⟨rfl, hCz, hFz⟩ := q1
    exact x_ireturn dX10_serve_24 rfl (by omega) (by omega) (outM (by rw [oServe, cond_f (fun z => z p_5)]; rfl) hCz (MFr.trans (MFr.set MFr.refl (by omega) (by omega)) hFz))
  · have p_5 := b2i_eq c_5
    refine x_aload_n 0 dX10_serve_8 rfl rfl ?_
    refine x_iconst dX10_serve_9 (okI_c rfl) ?_
    refine x_callV [vI ((-1))] dX10_serve_10 kv_X10_58 rfl rfl hm (by omega) (Nat.le_of_ble_eq_true rfl) (by omega) (by omega) (k_X10_refuse (d := 0) (S := S)  (hM)) (fun r1 h1 q1 => ?_)
    obtain ⟨rfl, hCz, hFz⟩ := q1
    exact x_ireturn dX10_serve_13 rfl (by omega) (by omega) (outM (by rw [oServe, cond_t p_5]; rfl) hCz (MFr.trans MFr.refl hFz))
set_option maxRecDepth 100000 in
set_option maxHeartbeats 4000000 in
theorem k_X10_count {G : aG} {d : Nat} (hd : 5 ≤ d) {m b1 b2 b3 b4 b5 b6 b7 b8 b9 lo hi : Nat} {S : aS} {nc : Nat} {h : aH} (hM : MRel m b1 b2 b3 b4 b5 b6 b7 b8 b9 lo hi S h) (hS : SOk nc S) {w : Int} : MC G mX10_count d 0 0 [vA m, vI w] h (MOut m b1 b2 b3 b4 b5 b6 b7 b8 b9 lo hi h vI (oCount w S)) := by
  obtain ⟨⟨o0, o1, o2, o3, o4, o5, o6, o7, o8, o9, oA⟩, hm, ⟨gT, gD, gC, gK, gA, hb1, hb2, hb3, hb4, hb5, hcu⟩, ⟨fr, hb6, hrw⟩, ⟨sm, hb7, hsm⟩, ⟨g8, hb8, htl⟩, ⟨gw, hb9⟩⟩ := id hM
  obtain ⟨⟨s1, s2⟩, s3, ⟨s4, s5⟩, ⟨s6, s7, s8⟩, s9, ⟨s10, s11⟩, s12⟩ := id hS
  refine MC.of (by decide) (Nat.le_of_ble_eq_true rfl) (fun ok okh => ?_)
  show EX G mX10_count d 0 0 _ 0 [(0, vA m), (1, vI w)] [] h 0 0
  refine x_iload_n 1 dX10_count_0 rfl rfl ?_
  rcases (show w = 0 ∨ w = 1 ∨ w = 2 ∨ w = 3 ∨ w = 4 ∨ (w < 0 ∨ 4 < w) by omega) with cs | cs | cs | cs | cs | cs
  · refine x_tableIn 36 dX10_count_1 (by omega) (by omega) (by rw [cs]; rfl) (by decide) ?_
    refine x_aload_n 0 dX10_count_36 rfl rfl ?_
    refine x_get 0 dX10_count_37 fl_X10_47 hm rfl ?_
    exact x_ireturn dX10_count_40 rfl (by decide) (by decide) (outM (by simp [oCount, cs]) hM MFr.refl)
  · refine x_tableIn 41 dX10_count_1 (by omega) (by omega) (by rw [cs]; rfl) (by decide) ?_
    refine x_aload_n 0 dX10_count_41 rfl rfl ?_
    refine x_get 8 dX10_count_42 fl_X10_76 hm rfl ?_
    exact x_ireturn dX10_count_45 rfl (by decide) (by decide) (outM (by simp [oCount, cs]) hM MFr.refl)
  · refine x_tableIn 46 dX10_count_1 (by omega) (by omega) (by rw [cs]; rfl) (by decide) ?_
    refine x_aload_n 0 dX10_count_46 rfl rfl ?_
    refine x_get 10 dX10_count_47 fl_X10_147 hm rfl ?_
    exact x_ireturn dX10_count_50 rfl (by decide) (by decide) (outM (by simp [oCount, cs]) hM MFr.refl)
  · refine x_tableIn 51 dX10_count_1 (by omega) (by omega) (by rw [cs]; rfl) (by decide) ?_
    refine x_aload_n 0 dX10_count_51 rfl rfl ?_
    refine x_get 11 dX10_count_52 fl_X10_32 hm rfl ?_
    exact x_ireturn dX10_count_55 rfl (by decide) (by decide) (outM (by simp [oCount, cs]) hM MFr.refl)
  · refine x_tableIn 56 dX10_count_1 (by omega) (by omega) (by rw [cs]; rfl) (by decide) ?_
    refine x_aload_n 0 dX10_count_56 rfl rfl ?_
    refine x_get 6 dX10_count_57 fl_X10_69 hm rfl ?_
    refine x_if_eq 67 dX10_count_60 (by decide) (fun c_60 => ?_) (fun c_60 => ?_)
    · refine x_iconst dX10_count_67 (okI_c rfl) ?_
      exact x_ireturn dX10_count_68 rfl (by decide) (by decide) (outM (by rw [oCount, if_neg (by omega), if_neg (by omega), if_neg (by omega), if_neg (by omega), if_pos cs]; congr 1 <;> omega) hM MFr.refl)
    · refine x_iconst dX10_count_63 (okI_c rfl) ?_
      refine x_goto 68 dX10_count_64 (by decide) ?_
      exact x_ireturn dX10_count_68 rfl (by decide) (by decide) (outM (by rw [oCount, if_neg (by omega), if_neg (by omega), if_neg (by omega), if_neg (by omega), if_pos cs]; congr 1 <;> omega) hM MFr.refl)
  · refine x_tableOut 69 dX10_count_1 cs (by decide) ?_
    refine x_iconst dX10_count_69 (okI_c rfl) ?_
    exact x_ireturn dX10_count_70 rfl (by decide) (by decide) (outM (by rw [oCount, if_neg (by omega), if_neg (by omega), if_neg (by omega), if_neg (by omega), if_neg (by omega)]) hM MFr.refl)
set_option maxRecDepth 100000 in
set_option maxHeartbeats 4000000 in
theorem k_X10_trace {G : aG} {d : Nat} (hd : 5 ≤ d) {m b1 b2 b3 b4 b5 b6 b7 b8 b9 lo hi : Nat} {S : aS} {nc : Nat} {h : aH} (hM : MRel m b1 b2 b3 b4 b5 b6 b7 b8 b9 lo hi S h) (hS : SOk nc S) {b : Int} : MC G mX10_trace d 0 0 [vA m, vI b] h (MOut m b1 b2 b3 b4 b5 b6 b7 b8 b9 lo hi h vI (oTrace b S)) := by
  obtain ⟨⟨o0, o1, o2, o3, o4, o5, o6, o7, o8, o9, oA⟩, hm, ⟨gT, gD, gC, gK, gA, hb1, hb2, hb3, hb4, hb5, hcu⟩, ⟨fr, hb6, hrw⟩, ⟨sm, hb7, hsm⟩, ⟨g8, hb8, htl⟩, ⟨gw, hb9⟩⟩ := id hM
  obtain ⟨⟨s1, s2⟩, s3, ⟨s4, s5⟩, ⟨s6, s7, s8⟩, s9, ⟨s10, s11⟩, s12⟩ := id hS
  refine MC.of (by decide) (Nat.le_of_ble_eq_true rfl) (fun ok okh => ?_)
  show EX G mX10_trace d 0 0 _ 0 [(0, vA m), (1, vI b)] [] h 0 0
  refine x_iload_n 1 dX10_trace_0 rfl rfl ?_
  refine x_i2l dX10_trace_1 ?_
  refine x_lconst (x := 0) dX10_trace_2 (okJ_c rfl) rfl ?_
  refine x_ldc2 (n := 4) dX10_trace_3 (okJ_c rfl) kc_X10_136 ?_
  refine x_callS [vJ b, vJ 0, vJ 4] dX10_trace_6 ks_X10_50 rfl rfl (by omega) (Nat.le_of_ble_eq_true rfl) (by omega) (by omega) (k_X10_in (d := 0)) (after_ret ?_)
  refine x_if_eq 21 dX10_trace_9 (by decide) (fun c_9 => ?_) (fun c_9 => ?_)
  · have p_9 := b2i_eq c_9
    refine x_iconst dX10_trace_21 (okI_c rfl) ?_
    exact x_ireturn dX10_trace_22 rfl (by decide) (by decide) (outM (by rw [oTrace, if_pos (by omega)]) hM MFr.refl)
  · have p_9 := b2i_ne c_9
    refine x_aload_n 0 dX10_trace_12 rfl rfl ?_
    refine x_get 12 dX10_trace_13 fl_X10_36 hm rfl ?_
    refine x_iload_n 1 dX10_trace_16 rfl rfl ?_
    refine x_iaload dX10_trace_17 hb8 (by omega) (by omega) ?_
    refine x_goto 22 dX10_trace_18 (by decide) ?_
    exact x_ireturn dX10_trace_22 rfl (by decide) (by decide) (outM (by rw [oTrace, if_neg (by omega), htl]) hM MFr.refl)
set_option maxRecDepth 100000 in
set_option maxHeartbeats 4000000 in
theorem k_X10_status {G : aG} {d : Nat} (hd : 5 ≤ d) {m b1 b2 b3 b4 b5 b6 b7 b8 b9 lo hi : Nat} {S : aS} {nc : Nat} {h : aH} (hM : MRel m b1 b2 b3 b4 b5 b6 b7 b8 b9 lo hi S h) (hS : SOk nc S)  : MC G mX10_status d 0 0 [vA m] h (MOut m b1 b2 b3 b4 b5 b6 b7 b8 b9 lo hi h vI (oStatus S)) := by
  obtain ⟨⟨o0, o1, o2, o3, o4, o5, o6, o7, o8, o9, oA⟩, hm, ⟨gT, gD, gC, gK, gA, hb1, hb2, hb3, hb4, hb5, hcu⟩, ⟨fr, hb6, hrw⟩, ⟨sm, hb7, hsm⟩, ⟨g8, hb8, htl⟩, ⟨gw, hb9⟩⟩ := id hM
  obtain ⟨⟨s1, s2⟩, s3, ⟨s4, s5⟩, ⟨s6, s7, s8⟩, s9, ⟨s10, s11⟩, s12⟩ := id hS
  refine MC.of (by decide) (Nat.le_of_ble_eq_true rfl) (fun ok okh => ?_)
  show EX G mX10_status d 0 0 _ 0 [(0, vA m)] [] h 0 0
  refine x_aload_n 0 dX10_status_0 rfl rfl ?_
  refine x_get 13 dX10_status_1 fl_X10_42 hm rfl ?_
  exact x_ireturn dX10_status_4 rfl (by decide) (by decide) (outM rfl hM MFr.refl)
set_option maxRecDepth 100000 in
set_option maxHeartbeats 4000000 in
theorem k_X10_clear {G : aG} {d : Nat} (hd : 5 ≤ d) {m b1 b2 b3 b4 b5 b6 b7 b8 b9 lo hi : Nat} {S : aS} {nc : Nat} {h : aH} (hM : MRel m b1 b2 b3 b4 b5 b6 b7 b8 b9 lo hi S h) (hS : SOk nc S)  : MC G mX10_clear d 0 0 [vA m] h (MOut m b1 b2 b3 b4 b5 b6 b7 b8 b9 lo hi h vI (oClear S)) := by
  obtain ⟨⟨o0, o1, o2, o3, o4, o5, o6, o7, o8, o9, oA⟩, hm, ⟨gT, gD, gC, gK, gA, hb1, hb2, hb3, hb4, hb5, hcu⟩, ⟨fr, hb6, hrw⟩, ⟨sm, hb7, hsm⟩, ⟨g8, hb8, htl⟩, ⟨gw, hb9⟩⟩ := id hM
  obtain ⟨⟨s1, s2⟩, s3, ⟨s4, s5⟩, ⟨s6, s7, s8⟩, s9, ⟨s10, s11⟩, s12⟩ := id hS
  refine MC.of (by decide) (Nat.le_of_ble_eq_true rfl) (fun ok okh => ?_)
  show EX G mX10_clear d 0 0 _ 0 [(0, vA m)] [] h 0 0
  refine x_aload_n 0 dX10_clear_0 rfl rfl ?_
  refine x_iconst dX10_clear_1 (okI_c rfl) ?_
  refine x_put 0 dX10_clear_2 pu_X10_47 hm rfl rfl (Nat.le_of_ble_eq_true rfl) ?_
  refine x_aload_n 0 dX10_clear_5 rfl rfl ?_
  refine x_iconst dX10_clear_6 (okI_c rfl) ?_
  refine x_put 6 dX10_clear_7 pu_X10_69 (hset_eq _ _ _) (by decide +kernel) (by decide +kernel) (Nat.le_of_ble_eq_true rfl) ?_
  refine x_aload_n 0 dX10_clear_10 rfl rfl ?_
  refine x_iconst dX10_clear_11 (okI_c rfl) ?_
  refine x_put 8 dX10_clear_12 pu_X10_76 (hset_eq _ _ _) rfl rfl (Nat.le_of_ble_eq_true rfl) ?_
  refine x_aload_n 0 dX10_clear_15 rfl rfl ?_
  refine x_iconst dX10_clear_16 (okI_c rfl) ?_
  refine x_put 10 dX10_clear_17 pu_X10_147 (hset_eq _ _ _) rfl rfl (Nat.le_of_ble_eq_true rfl) ?_
  refine x_aload_n 0 dX10_clear_20 rfl rfl ?_
  refine x_iconst dX10_clear_21 (okI_c rfl) ?_
  refine x_put 11 dX10_clear_22 pu_X10_32 (hset_eq _ _ _) rfl rfl (Nat.le_of_ble_eq_true rfl) ?_
  refine x_aload_n 0 dX10_clear_25 rfl rfl ?_
  refine x_iconst dX10_clear_26 (okI_c rfl) ?_
  refine x_callV [vI 1] dX10_clear_27 kv_X10_73 rfl rfl (hset_eq _ _ _) (by omega) (Nat.le_of_ble_eq_true rfl) (by omega) (by omega) (k_X10_fine (d := 0) (S := sSrv (-1) (sRun 0 (sSm S) (sRow 0 (sRw S) (sCnt 0 0 S)))) (h := (hset (hset (hset (hset (hset h m (eO 9 [vI 0, vA b1, vA b2, vA b3, vA b4, vA b5, vI ((sMu S)), vA b6, vI ((sRn S)), vA b7, vI ((sSn S)), vI ((sSv S)), vA b8, vI ((sLt S)), vA b9])) m (eO 9 [vI 0, vA b1, vA b2, vA b3, vA b4, vA b5, vI 0, vA b6, vI ((sRn S)), vA b7, vI ((sSn S)), vI ((sSv S)), vA b8, vI ((sLt S)), vA b9])) m (eO 9 [vI 0, vA b1, vA b2, vA b3, vA b4, vA b5, vI 0, vA b6, vI 0, vA b7, vI ((sSn S)), vI ((sSv S)), vA b8, vI ((sLt S)), vA b9])) m (eO 9 [vI 0, vA b1, vA b2, vA b3, vA b4, vA b5, vI 0, vA b6, vI 0, vA b7, vI 0, vI ((sSv S)), vA b8, vI ((sLt S)), vA b9])) m (eO 9 [vI 0, vA b1, vA b2, vA b3, vA b4, vA b5, vI 0, vA b6, vI 0, vA b7, vI 0, vI ((-1)), vA b8, vI ((sLt S)), vA b9]))) (⟨⟨o0, o1, o2, o3, o4, o5, o6, o7, o8, o9, oA⟩, (hset_eq _ _ _), ⟨gT, gD, gC, gK, gA, ((hset_ne _ _ (by omega)).trans ((hset_ne _ _ (by omega)).trans ((hset_ne _ _ (by omega)).trans ((hset_ne _ _ (by omega)).trans ((hset_ne _ _ (by omega)).trans hb1))))), ((hset_ne _ _ (by omega)).trans ((hset_ne _ _ (by omega)).trans ((hset_ne _ _ (by omega)).trans ((hset_ne _ _ (by omega)).trans ((hset_ne _ _ (by omega)).trans hb2))))), ((hset_ne _ _ (by omega)).trans ((hset_ne _ _ (by omega)).trans ((hset_ne _ _ (by omega)).trans ((hset_ne _ _ (by omega)).trans ((hset_ne _ _ (by omega)).trans hb3))))), ((hset_ne _ _ (by omega)).trans ((hset_ne _ _ (by omega)).trans ((hset_ne _ _ (by omega)).trans ((hset_ne _ _ (by omega)).trans ((hset_ne _ _ (by omega)).trans hb4))))), ((hset_ne _ _ (by omega)).trans ((hset_ne _ _ (by omega)).trans ((hset_ne _ _ (by omega)).trans ((hset_ne _ _ (by omega)).trans ((hset_ne _ _ (by omega)).trans hb5))))), (fun i q1 q2 => by have q3 : i < 0 := q2; omega)⟩, ⟨fr, ((hset_ne _ _ (by omega)).trans ((hset_ne _ _ (by omega)).trans ((hset_ne _ _ (by omega)).trans ((hset_ne _ _ (by omega)).trans ((hset_ne _ _ (by omega)).trans hb6))))), (fun t q1 q2 => by have q3 : t < 0 := q2; omega)⟩, ⟨sm, ((hset_ne _ _ (by omega)).trans ((hset_ne _ _ (by omega)).trans ((hset_ne _ _ (by omega)).trans ((hset_ne _ _ (by omega)).trans ((hset_ne _ _ (by omega)).trans hb7))))), (fun k q1 q2 => by have q3 : k < 0 := q2; omega)⟩, ⟨g8, ((hset_ne _ _ (by omega)).trans ((hset_ne _ _ (by omega)).trans ((hset_ne _ _ (by omega)).trans ((hset_ne _ _ (by omega)).trans ((hset_ne _ _ (by omega)).trans hb8))))), htl⟩, ⟨_, ((hset_ne _ _ (by omega)).trans ((hset_ne _ _ (by omega)).trans ((hset_ne _ _ (by omega)).trans ((hset_ne _ _ (by omega)).trans ((hset_ne _ _ (by omega)).trans hb9)))))⟩⟩)) (fun r1 h1 q1 => ?_)
  obtain ⟨rfl, hCz, hFz⟩ := q1
  exact x_ireturn dX10_clear_30 rfl (by omega) (by omega) (outM (rfl) hCz (MFr.trans (MFr.set (MFr.set (MFr.set (MFr.set (MFr.set MFr.refl (by omega) (by omega)) (by omega) (by omega)) (by omega) (by omega)) (by omega) (by omega)) (by omega) (by omega)) hFz))
set_option maxRecDepth 100000 in
set_option maxHeartbeats 4000000 in
theorem k_X10_undo {G : aG} {d : Nat} (hd : 5 ≤ d) {m b1 b2 b3 b4 b5 b6 b7 b8 b9 lo hi : Nat} {S : aS} {nc : Nat} {h : aH} (hM : MRel m b1 b2 b3 b4 b5 b6 b7 b8 b9 lo hi S h) (hS : SOk nc S)  : MC G mX10_undo d 0 0 [vA m] h (MOut m b1 b2 b3 b4 b5 b6 b7 b8 b9 lo hi h vI (oUndo S)) := by
  obtain ⟨⟨o0, o1, o2, o3, o4, o5, o6, o7, o8, o9, oA⟩, hm, ⟨gT, gD, gC, gK, gA, hb1, hb2, hb3, hb4, hb5, hcu⟩, ⟨fr, hb6, hrw⟩, ⟨sm, hb7, hsm⟩, ⟨g8, hb8, htl⟩, ⟨gw, hb9⟩⟩ := id hM
  obtain ⟨⟨s1, s2⟩, s3, ⟨s4, s5⟩, ⟨s6, s7, s8⟩, s9, ⟨s10, s11⟩, s12⟩ := id hS
  refine MC.of (by decide) (Nat.le_of_ble_eq_true rfl) (fun ok okh => ?_)
  show EX G mX10_undo d 0 0 _ 0 [(0, vA m)] [] h 0 0
  refine x_aload_n 0 dX10_undo_0 rfl rfl ?_
  refine x_get 6 dX10_undo_1 fl_X10_69 hm rfl ?_
  refine x_if_ne 14 dX10_undo_4 (by decide) (fun c_4 => ?_) (fun c_4 => ?_)
  · refine x_aload_n 0 dX10_undo_14 rfl rfl ?_
    refine x_iconst dX10_undo_15 (okI_c rfl) ?_
    refine x_put 6 dX10_undo_16 pu_X10_69 hm (by decide +kernel) (by decide +kernel) (Nat.le_of_ble_eq_true rfl) ?_
    refine x_aload_n 0 dX10_undo_19 rfl rfl ?_
    refine x_dup dX10_undo_20 rfl ?_
    refine x_get 0 dX10_undo_21 fl_X10_47 (hset_eq _ _ _) rfl ?_
    refine x_iconst dX10_undo_24 (okI_c rfl) ?_
    refine x_isub dX10_undo_25 (by unfold okI; omega) ?_
    refine x_put 0 dX10_undo_26 pu_X10_47 (hset_eq _ _ _) rfl rfl (Nat.le_of_ble_eq_true rfl) ?_
    refine x_aload_n 0 dX10_undo_29 rfl rfl ?_
    refine x_aload_n 0 dX10_undo_30 rfl rfl ?_
    refine x_get 11 dX10_undo_31 fl_X10_32 (hset_eq _ _ _) rfl ?_
    refine x_aload_n 0 dX10_undo_34 rfl rfl ?_
    refine x_get 0 dX10_undo_35 fl_X10_47 (hset_eq _ _ _) rfl ?_
    refine x_icmp_ne 45 dX10_undo_38 (by decide) (fun c_38 => ?_) (fun c_38 => ?_)
    · refine x_aload_n 0 dX10_undo_45 rfl rfl ?_
      refine x_get 11 dX10_undo_46 fl_X10_32 (hset_eq _ _ _) rfl ?_
      refine x_put 11 dX10_undo_49 pu_X10_32 (hset_eq _ _ _) rfl rfl (Nat.le_of_ble_eq_true rfl) ?_
      refine x_aload_n 0 dX10_undo_52 rfl rfl ?_
      refine x_aload_n 0 dX10_undo_53 rfl rfl ?_
      refine x_get 0 dX10_undo_54 fl_X10_47 (hset_eq _ _ _) rfl ?_
      refine x_callV [vI (((sCu S)) - 1)] dX10_undo_57 kv_X10_73 rfl rfl (hset_eq _ _ _) (by omega) (Nat.le_of_ble_eq_true rfl) (by omega) (by omega) (k_X10_fine (d := 0) (S := sCnt (sCu S - 1) 0 S) (h := (hset (hset (hset h m (eO 9 [vI ((sCu S)), vA b1, vA b2, vA b3, vA b4, vA b5, vI 0, vA b6, vI ((sRn S)), vA b7, vI ((sSn S)), vI ((sSv S)), vA b8, vI ((sLt S)), vA b9])) m (eO 9 [vI (((sCu S)) - 1), vA b1, vA b2, vA b3, vA b4, vA b5, vI 0, vA b6, vI ((sRn S)), vA b7, vI ((sSn S)), vI ((sSv S)), vA b8, vI ((sLt S)), vA b9])) m (eO 9 [vI (((sCu S)) - 1), vA b1, vA b2, vA b3, vA b4, vA b5, vI 0, vA b6, vI ((sRn S)), vA b7, vI ((sSn S)), vI ((sSv S)), vA b8, vI ((sLt S)), vA b9]))) (⟨⟨o0, o1, o2, o3, o4, o5, o6, o7, o8, o9, oA⟩, (hset_eq _ _ _), ⟨gT, gD, gC, gK, gA, ((hset_ne _ _ (by omega)).trans ((hset_ne _ _ (by omega)).trans ((hset_ne _ _ (by omega)).trans hb1))), ((hset_ne _ _ (by omega)).trans ((hset_ne _ _ (by omega)).trans ((hset_ne _ _ (by omega)).trans hb2))), ((hset_ne _ _ (by omega)).trans ((hset_ne _ _ (by omega)).trans ((hset_ne _ _ (by omega)).trans hb3))), ((hset_ne _ _ (by omega)).trans ((hset_ne _ _ (by omega)).trans ((hset_ne _ _ (by omega)).trans hb4))), ((hset_ne _ _ (by omega)).trans ((hset_ne _ _ (by omega)).trans ((hset_ne _ _ (by omega)).trans hb5))), (fun i q1 q2 => by have q3 : i < sCu S - 1 := q2; exact hcu i q1 (by omega))⟩, ⟨fr, ((hset_ne _ _ (by omega)).trans ((hset_ne _ _ (by omega)).trans ((hset_ne _ _ (by omega)).trans hb6))), hrw⟩, ⟨sm, ((hset_ne _ _ (by omega)).trans ((hset_ne _ _ (by omega)).trans ((hset_ne _ _ (by omega)).trans hb7))), hsm⟩, ⟨g8, ((hset_ne _ _ (by omega)).trans ((hset_ne _ _ (by omega)).trans ((hset_ne _ _ (by omega)).trans hb8))), htl⟩, ⟨_, ((hset_ne _ _ (by omega)).trans ((hset_ne _ _ (by omega)).trans ((hset_ne _ _ (by omega)).trans hb9)))⟩⟩)) (fun r1 h1 q1 => ?_)
      obtain ⟨rfl, hCz, hFz⟩ := q1
      exact x_ireturn dX10_undo_60 rfl (by omega) (by omega) (outM (by rw [oUndo, if_neg (by omega), if_neg c_38]; rfl) hCz (MFr.trans (MFr.set (MFr.set (MFr.set MFr.refl (by omega) (by omega)) (by omega) (by omega)) (by omega) (by omega)) hFz))
    · refine x_iconst dX10_undo_41 (okI_c rfl) ?_
      refine x_goto 49 dX10_undo_42 (by decide) ?_
      refine x_put 11 dX10_undo_49 pu_X10_32 (hset_eq _ _ _) rfl rfl (Nat.le_of_ble_eq_true rfl) ?_
      refine x_aload_n 0 dX10_undo_52 rfl rfl ?_
      refine x_aload_n 0 dX10_undo_53 rfl rfl ?_
      refine x_get 0 dX10_undo_54 fl_X10_47 (hset_eq _ _ _) rfl ?_
      refine x_callV [vI (((sCu S)) - 1)] dX10_undo_57 kv_X10_73 rfl rfl (hset_eq _ _ _) (by omega) (Nat.le_of_ble_eq_true rfl) (by omega) (by omega) (k_X10_fine (d := 0) (S := sSrv (-1) (sCnt (sCu S - 1) 0 S)) (h := (hset (hset (hset h m (eO 9 [vI ((sCu S)), vA b1, vA b2, vA b3, vA b4, vA b5, vI 0, vA b6, vI ((sRn S)), vA b7, vI ((sSn S)), vI ((sSv S)), vA b8, vI ((sLt S)), vA b9])) m (eO 9 [vI (((sCu S)) - 1), vA b1, vA b2, vA b3, vA b4, vA b5, vI 0, vA b6, vI ((sRn S)), vA b7, vI ((sSn S)), vI ((sSv S)), vA b8, vI ((sLt S)), vA b9])) m (eO 9 [vI (((sCu S)) - 1), vA b1, vA b2, vA b3, vA b4, vA b5, vI 0, vA b6, vI ((sRn S)), vA b7, vI ((sSn S)), vI ((-1)), vA b8, vI ((sLt S)), vA b9]))) (⟨⟨o0, o1, o2, o3, o4, o5, o6, o7, o8, o9, oA⟩, (hset_eq _ _ _), ⟨gT, gD, gC, gK, gA, ((hset_ne _ _ (by omega)).trans ((hset_ne _ _ (by omega)).trans ((hset_ne _ _ (by omega)).trans hb1))), ((hset_ne _ _ (by omega)).trans ((hset_ne _ _ (by omega)).trans ((hset_ne _ _ (by omega)).trans hb2))), ((hset_ne _ _ (by omega)).trans ((hset_ne _ _ (by omega)).trans ((hset_ne _ _ (by omega)).trans hb3))), ((hset_ne _ _ (by omega)).trans ((hset_ne _ _ (by omega)).trans ((hset_ne _ _ (by omega)).trans hb4))), ((hset_ne _ _ (by omega)).trans ((hset_ne _ _ (by omega)).trans ((hset_ne _ _ (by omega)).trans hb5))), (fun i q1 q2 => by have q3 : i < sCu S - 1 := q2; exact hcu i q1 (by omega))⟩, ⟨fr, ((hset_ne _ _ (by omega)).trans ((hset_ne _ _ (by omega)).trans ((hset_ne _ _ (by omega)).trans hb6))), hrw⟩, ⟨sm, ((hset_ne _ _ (by omega)).trans ((hset_ne _ _ (by omega)).trans ((hset_ne _ _ (by omega)).trans hb7))), hsm⟩, ⟨g8, ((hset_ne _ _ (by omega)).trans ((hset_ne _ _ (by omega)).trans ((hset_ne _ _ (by omega)).trans hb8))), htl⟩, ⟨_, ((hset_ne _ _ (by omega)).trans ((hset_ne _ _ (by omega)).trans ((hset_ne _ _ (by omega)).trans hb9)))⟩⟩)) (fun r1 h1 q1 => ?_)
      obtain ⟨rfl, hCz, hFz⟩ := q1
      exact x_ireturn dX10_undo_60 rfl (by omega) (by omega) (outM (by rw [oUndo, if_neg (by omega), if_pos c_38]; rfl) hCz (MFr.trans (MFr.set (MFr.set (MFr.set MFr.refl (by omega) (by omega)) (by omega) (by omega)) (by omega) (by omega)) hFz))
  · refine x_aload_n 0 dX10_undo_7 rfl rfl ?_
    refine x_bipush dX10_undo_8 (okI_c rfl) (by decide +kernel) ?_
    refine x_callV [vI ((-2))] dX10_undo_10 kv_X10_58 rfl rfl hm (by omega) (Nat.le_of_ble_eq_true rfl) (by omega) (by omega) (k_X10_refuse (d := 0) (S := S)  (hM)) (fun r1 h1 q1 => ?_)
    obtain ⟨rfl, hCz, hFz⟩ := q1
    exact x_ireturn dX10_undo_13 rfl (by omega) (by omega) (outM (by rw [oUndo, if_pos (by omega)]; rfl) hCz (MFr.trans MFr.refl hFz))
set_option maxRecDepth 100000 in
set_option maxHeartbeats 4000000 in
theorem k_X10_moved {G : aG} {d : Nat} (hd : 5 ≤ d) {m b1 b2 b3 b4 b5 b6 b7 b8 b9 lo hi : Nat} {S : aS} {nc : Nat} {h : aH} (hM : MRel m b1 b2 b3 b4 b5 b6 b7 b8 b9 lo hi S h) (hS : SOk nc S) {sd : Int} {t : Int} : MC G mX10_moved d 0 0 [vA m, vI sd, vI t] h (MOut m b1 b2 b3 b4 b5 b6 b7 b8 b9 lo hi h vJ (oMoved sd t S)) := by
  obtain ⟨⟨o0, o1, o2, o3, o4, o5, o6, o7, o8, o9, oA⟩, hm, ⟨gT, gD, gC, gK, gA, hb1, hb2, hb3, hb4, hb5, hcu⟩, ⟨fr, hb6, hrw⟩, ⟨sm, hb7, hsm⟩, ⟨g8, hb8, htl⟩, ⟨gw, hb9⟩⟩ := id hM
  obtain ⟨⟨s1, s2⟩, s3, ⟨s4, s5⟩, ⟨s6, s7, s8⟩, s9, ⟨s10, s11⟩, s12⟩ := id hS
  refine MC.of (by decide) (Nat.le_of_ble_eq_true rfl) (fun ok okh => ?_)
  show EX G mX10_moved d 0 0 _ 0 [(0, vA m), (1, vI sd), (2, vI t)] [] h 0 0
  refine x_iload_n 1 dX10_moved_0 rfl rfl ?_
  refine x_i2l dX10_moved_1 ?_
  refine x_lconst (x := 0) dX10_moved_2 (okJ_c rfl) rfl ?_
  refine x_ldc2 (n := 2) dX10_moved_3 (okJ_c rfl) kc_X10_153 ?_
  refine x_callS [vJ sd, vJ 0, vJ 2] dX10_moved_6 ks_X10_50 rfl rfl (by omega) (Nat.le_of_ble_eq_true rfl) (by omega) (by omega) (k_X10_in (d := 0)) (after_ret ?_)
  refine x_if_eq 24 dX10_moved_9 (by decide) (fun c_9 => ?_) (fun c_9 => ?_)
  · have p_9 := b2i_eq c_9
    refine x_aload_n 0 dX10_moved_24 rfl rfl ?_
    refine x_iconst dX10_moved_25 (okI_c rfl) ?_
    refine x_callV [vI ((-1))] dX10_moved_26 kv_X10_128 rfl rfl hm (by omega) (Nat.le_of_ble_eq_true rfl) (by omega) (by omega) (k_X10_none (d := 0) (S := S)  (hM)) (fun r1 h1 q1 => ?_)
    obtain ⟨rfl, hCz, hFz⟩ := q1
    exact x_lreturn dX10_moved_29 rfl (by omega) (by omega) (outM (by rw [oMoved, if_pos (by omega)]; rfl) hCz (MFr.trans MFr.refl hFz))
  · have p_9 := b2i_ne c_9
    refine x_iload_n 2 dX10_moved_12 rfl rfl ?_
    refine x_i2l dX10_moved_13 ?_
    refine x_lconst (x := 0) dX10_moved_14 (okJ_c rfl) rfl ?_
    refine x_ldc2 (n := 600) dX10_moved_15 (okJ_c rfl) kc_X10_155 ?_
    refine x_callS [vJ t, vJ 0, vJ 600] dX10_moved_18 ks_X10_50 rfl rfl (by omega) (Nat.le_of_ble_eq_true rfl) (by omega) (by omega) (k_X10_in (d := 0)) (after_ret ?_)
    refine x_if_ne 30 dX10_moved_21 (by decide) (fun c_21 => ?_) (fun c_21 => ?_)
    · have p_21 := b2i_ne c_21
      refine x_iload_n 1 dX10_moved_30 rfl rfl ?_
      refine x_if_le 48 dX10_moved_31 (by decide) (fun c_31 => ?_) (fun c_31 => ?_)
      · refine x_aload_n 0 dX10_moved_48 rfl rfl ?_
        refine x_iload_n 1 dX10_moved_49 rfl rfl ?_
        refine x_if_ne 61 dX10_moved_50 (by decide) (fun c_50 => ?_) (fun c_50 => ?_)
        · refine x_iload_n 1 dX10_moved_61 rfl rfl ?_
          refine x_iconst dX10_moved_62 (okI_c rfl) ?_
          refine x_icmp_ne 74 dX10_moved_63 (by decide) (fun c_63 => ?_) (fun c_63 => ?_)
          · refine x_aload_n 0 dX10_moved_74 rfl rfl ?_
            refine x_iload_n 2 dX10_moved_75 rfl rfl ?_
            refine x_callV [vI t] dX10_moved_76 kv_X10_150 rfl rfl hm (by omega) (Nat.le_of_ble_eq_true rfl) (by omega) (by omega) (k_X10_came (d := 0) hM hS (t := t) (by omega)) (after_ret ?_)
            refine x_aload_n 0 dX10_moved_79 rfl rfl ?_
            refine x_iload_n 2 dX10_moved_80 rfl rfl ?_
            refine x_callV [vI t] dX10_moved_81 kv_X10_157 rfl rfl hm (by omega) (Nat.le_of_ble_eq_true rfl) (by omega) (by omega) (k_X10_served (d := 1) (by omega) hM hS ⟨by omega, s11⟩ (t := t) (by omega) (by omega)) (after_ret ?_)
            have w1 := arr_top (t := t) s9 (by omega)
            have w2 := serv_top (t := t) s9 (cval_M (s3 (sSv S) (by omega) s11)) (by omega)
            have w3 : 0 ≤ servS (sSn S) (sSm S) (sF S (sSv S)) t ∧ servS (sSn S) (sSm S) (sF S (sSv S)) t ≤ arrS (sSn S) (sSm S) t := w2
            refine x_lsub dX10_moved_84 (by unfold okJ; omega) ?_
            refine x_callV [vJ (((arrS (sSn S) (sSm S) t)) - ((servS (sSn S) (sSm S) (sF S (sSv S)) t)))] dX10_moved_85 kv_X10_132 rfl rfl hm (by omega) (Nat.le_of_ble_eq_true rfl) (by omega) (by omega) (k_X10_fineLong (d := 0) (S := S)  (hM)) (fun r1 h1 q1 => ?_)
            obtain ⟨rfl, hCz, hFz⟩ := q1
            exact x_lreturn dX10_moved_88 rfl (by omega) (by omega) (outM (by first | (rw [oMoved, if_neg (by omega), if_pos (show sd = 0 from c_50)]; rfl) | (rw [oMoved, if_neg (by omega), if_neg (by omega), if_neg (by omega), if_pos (show sd = 1 from c_63)]; rfl) | (rw [oMoved, if_neg (by omega), if_neg (by omega), if_neg (by omega), if_neg (show ¬ sd = 1 from c_63)]; rfl)) hCz (MFr.trans MFr.refl hFz))
          · refine x_aload_n 0 dX10_moved_66 rfl rfl ?_
            refine x_iload_n 2 dX10_moved_67 rfl rfl ?_
            refine x_callV [vI t] dX10_moved_68 kv_X10_157 rfl rfl hm (by omega) (Nat.le_of_ble_eq_true rfl) (by omega) (by omega) (k_X10_served (d := 1) (by omega) hM hS ⟨by omega, s11⟩ (t := t) (by omega) (by omega)) (after_ret ?_)
            refine x_goto 85 dX10_moved_71 (by decide) ?_
            refine x_callV [vJ ((servS (sSn S) (sSm S) (sF S (sSv S)) t))] dX10_moved_85 kv_X10_132 rfl rfl hm (by omega) (Nat.le_of_ble_eq_true rfl) (by omega) (by omega) (k_X10_fineLong (d := 0) (S := S)  (hM)) (fun r1 h1 q1 => ?_)
            obtain ⟨rfl, hCz, hFz⟩ := q1
            exact x_lreturn dX10_moved_88 rfl (by omega) (by omega) (outM (by first | (rw [oMoved, if_neg (by omega), if_pos (show sd = 0 from c_50)]; rfl) | (rw [oMoved, if_neg (by omega), if_neg (by omega), if_neg (by omega), if_pos (show sd = 1 from c_63)]; rfl) | (rw [oMoved, if_neg (by omega), if_neg (by omega), if_neg (by omega), if_neg (show ¬ sd = 1 from c_63)]; rfl)) hCz (MFr.trans MFr.refl hFz))
        · refine x_aload_n 0 dX10_moved_53 rfl rfl ?_
          refine x_iload_n 2 dX10_moved_54 rfl rfl ?_
          refine x_callV [vI t] dX10_moved_55 kv_X10_150 rfl rfl hm (by omega) (Nat.le_of_ble_eq_true rfl) (by omega) (by omega) (k_X10_came (d := 0) hM hS (t := t) (by omega)) (after_ret ?_)
          refine x_goto 85 dX10_moved_58 (by decide) ?_
          refine x_callV [vJ ((arrS (sSn S) (sSm S) t))] dX10_moved_85 kv_X10_132 rfl rfl hm (by omega) (Nat.le_of_ble_eq_true rfl) (by omega) (by omega) (k_X10_fineLong (d := 0) (S := S)  (hM)) (fun r1 h1 q1 => ?_)
          obtain ⟨rfl, hCz, hFz⟩ := q1
          exact x_lreturn dX10_moved_88 rfl (by omega) (by omega) (outM (by first | (rw [oMoved, if_neg (by omega), if_pos (show sd = 0 from c_50)]; rfl) | (rw [oMoved, if_neg (by omega), if_neg (by omega), if_neg (by omega), if_pos (show sd = 1 from c_63)]; rfl) | (rw [oMoved, if_neg (by omega), if_neg (by omega), if_neg (by omega), if_neg (show ¬ sd = 1 from c_63)]; rfl)) hCz (MFr.trans MFr.refl hFz))
      · refine x_aload_n 0 dX10_moved_34 rfl rfl ?_
        refine x_get 11 dX10_moved_35 fl_X10_32 hm rfl ?_
        refine x_if_ge 48 dX10_moved_38 (by decide) (fun c_38 => ?_) (fun c_38 => ?_)
        · refine x_aload_n 0 dX10_moved_48 rfl rfl ?_
          refine x_iload_n 1 dX10_moved_49 rfl rfl ?_
          refine x_if_ne 61 dX10_moved_50 (by decide) (fun c_50 => ?_) (fun c_50 => ?_)
          · refine x_iload_n 1 dX10_moved_61 rfl rfl ?_
            refine x_iconst dX10_moved_62 (okI_c rfl) ?_
            refine x_icmp_ne 74 dX10_moved_63 (by decide) (fun c_63 => ?_) (fun c_63 => ?_)
            · refine x_aload_n 0 dX10_moved_74 rfl rfl ?_
              refine x_iload_n 2 dX10_moved_75 rfl rfl ?_
              refine x_callV [vI t] dX10_moved_76 kv_X10_150 rfl rfl hm (by omega) (Nat.le_of_ble_eq_true rfl) (by omega) (by omega) (k_X10_came (d := 0) hM hS (t := t) (by omega)) (after_ret ?_)
              refine x_aload_n 0 dX10_moved_79 rfl rfl ?_
              refine x_iload_n 2 dX10_moved_80 rfl rfl ?_
              refine x_callV [vI t] dX10_moved_81 kv_X10_157 rfl rfl hm (by omega) (Nat.le_of_ble_eq_true rfl) (by omega) (by omega) (k_X10_served (d := 1) (by omega) hM hS ⟨by omega, s11⟩ (t := t) (by omega) (by omega)) (after_ret ?_)
              have w1 := arr_top (t := t) s9 (by omega)
              have w2 := serv_top (t := t) s9 (cval_M (s3 (sSv S) (by omega) s11)) (by omega)
              have w3 : 0 ≤ servS (sSn S) (sSm S) (sF S (sSv S)) t ∧ servS (sSn S) (sSm S) (sF S (sSv S)) t ≤ arrS (sSn S) (sSm S) t := w2
              refine x_lsub dX10_moved_84 (by unfold okJ; omega) ?_
              refine x_callV [vJ (((arrS (sSn S) (sSm S) t)) - ((servS (sSn S) (sSm S) (sF S (sSv S)) t)))] dX10_moved_85 kv_X10_132 rfl rfl hm (by omega) (Nat.le_of_ble_eq_true rfl) (by omega) (by omega) (k_X10_fineLong (d := 0) (S := S)  (hM)) (fun r1 h1 q1 => ?_)
              obtain ⟨rfl, hCz, hFz⟩ := q1
              exact x_lreturn dX10_moved_88 rfl (by omega) (by omega) (outM (by first | (rw [oMoved, if_neg (by omega), if_pos (show sd = 0 from c_50)]; rfl) | (rw [oMoved, if_neg (by omega), if_neg (by omega), if_neg (by omega), if_pos (show sd = 1 from c_63)]; rfl) | (rw [oMoved, if_neg (by omega), if_neg (by omega), if_neg (by omega), if_neg (show ¬ sd = 1 from c_63)]; rfl)) hCz (MFr.trans MFr.refl hFz))
            · refine x_aload_n 0 dX10_moved_66 rfl rfl ?_
              refine x_iload_n 2 dX10_moved_67 rfl rfl ?_
              refine x_callV [vI t] dX10_moved_68 kv_X10_157 rfl rfl hm (by omega) (Nat.le_of_ble_eq_true rfl) (by omega) (by omega) (k_X10_served (d := 1) (by omega) hM hS ⟨by omega, s11⟩ (t := t) (by omega) (by omega)) (after_ret ?_)
              refine x_goto 85 dX10_moved_71 (by decide) ?_
              refine x_callV [vJ ((servS (sSn S) (sSm S) (sF S (sSv S)) t))] dX10_moved_85 kv_X10_132 rfl rfl hm (by omega) (Nat.le_of_ble_eq_true rfl) (by omega) (by omega) (k_X10_fineLong (d := 0) (S := S)  (hM)) (fun r1 h1 q1 => ?_)
              obtain ⟨rfl, hCz, hFz⟩ := q1
              exact x_lreturn dX10_moved_88 rfl (by omega) (by omega) (outM (by first | (rw [oMoved, if_neg (by omega), if_pos (show sd = 0 from c_50)]; rfl) | (rw [oMoved, if_neg (by omega), if_neg (by omega), if_neg (by omega), if_pos (show sd = 1 from c_63)]; rfl) | (rw [oMoved, if_neg (by omega), if_neg (by omega), if_neg (by omega), if_neg (show ¬ sd = 1 from c_63)]; rfl)) hCz (MFr.trans MFr.refl hFz))
          · refine x_aload_n 0 dX10_moved_53 rfl rfl ?_
            refine x_iload_n 2 dX10_moved_54 rfl rfl ?_
            refine x_callV [vI t] dX10_moved_55 kv_X10_150 rfl rfl hm (by omega) (Nat.le_of_ble_eq_true rfl) (by omega) (by omega) (k_X10_came (d := 0) hM hS (t := t) (by omega)) (after_ret ?_)
            refine x_goto 85 dX10_moved_58 (by decide) ?_
            refine x_callV [vJ ((arrS (sSn S) (sSm S) t))] dX10_moved_85 kv_X10_132 rfl rfl hm (by omega) (Nat.le_of_ble_eq_true rfl) (by omega) (by omega) (k_X10_fineLong (d := 0) (S := S)  (hM)) (fun r1 h1 q1 => ?_)
            obtain ⟨rfl, hCz, hFz⟩ := q1
            exact x_lreturn dX10_moved_88 rfl (by omega) (by omega) (outM (by first | (rw [oMoved, if_neg (by omega), if_pos (show sd = 0 from c_50)]; rfl) | (rw [oMoved, if_neg (by omega), if_neg (by omega), if_neg (by omega), if_pos (show sd = 1 from c_63)]; rfl) | (rw [oMoved, if_neg (by omega), if_neg (by omega), if_neg (by omega), if_neg (show ¬ sd = 1 from c_63)]; rfl)) hCz (MFr.trans MFr.refl hFz))
        · refine x_aload_n 0 dX10_moved_41 rfl rfl ?_
          refine x_bipush dX10_moved_42 (okI_c rfl) (by decide +kernel) ?_
          refine x_callV [vI ((-2))] dX10_moved_44 kv_X10_128 rfl rfl hm (by omega) (Nat.le_of_ble_eq_true rfl) (by omega) (by omega) (k_X10_none (d := 0) (S := S)  (hM)) (fun r1 h1 q1 => ?_)
          obtain ⟨rfl, hCz, hFz⟩ := q1
          exact x_lreturn dX10_moved_47 rfl (by omega) (by omega) (outM (by rw [oMoved, if_neg (by omega), if_neg (by omega), if_pos (by omega)]; rfl) hCz (MFr.trans MFr.refl hFz))
    · have p_21 := b2i_eq c_21
      refine x_aload_n 0 dX10_moved_24 rfl rfl ?_
      refine x_iconst dX10_moved_25 (okI_c rfl) ?_
      refine x_callV [vI ((-1))] dX10_moved_26 kv_X10_128 rfl rfl hm (by omega) (Nat.le_of_ble_eq_true rfl) (by omega) (by omega) (k_X10_none (d := 0) (S := S)  (hM)) (fun r1 h1 q1 => ?_)
      obtain ⟨rfl, hCz, hFz⟩ := q1
      exact x_lreturn dX10_moved_29 rfl (by omega) (by omega) (outM (by rw [oMoved, if_pos (by omega)]; rfl) hCz (MFr.trans MFr.refl hFz))
set_option maxRecDepth 100000 in
set_option maxHeartbeats 4000000 in
theorem k_X10_late {G : aG} {d : Nat} (hd : 5 ≤ d) {m b1 b2 b3 b4 b5 b6 b7 b8 b9 lo hi : Nat} {S : aS} {nc : Nat} {h : aH} (hM : MRel m b1 b2 b3 b4 b5 b6 b7 b8 b9 lo hi S h) (hS : SOk nc S) {t : Int} : MC G mX10_late d 0 0 [vA m, vI t] h (MOut m b1 b2 b3 b4 b5 b6 b7 b8 b9 lo hi h vI (oLate t S)) := by
  obtain ⟨⟨o0, o1, o2, o3, o4, o5, o6, o7, o8, o9, oA⟩, hm, ⟨gT, gD, gC, gK, gA, hb1, hb2, hb3, hb4, hb5, hcu⟩, ⟨fr, hb6, hrw⟩, ⟨sm, hb7, hsm⟩, ⟨g8, hb8, htl⟩, ⟨gw, hb9⟩⟩ := id hM
  obtain ⟨⟨s1, s2⟩, s3, ⟨s4, s5⟩, ⟨s6, s7, s8⟩, s9, ⟨s10, s11⟩, s12⟩ := id hS
  refine MC.of (by decide) (Nat.le_of_ble_eq_true rfl) (fun ok okh => ?_)
  show EX G mX10_late d 0 0 _ 0 [(0, vA m), (1, vI t)] [] h 0 0
  refine x_iload_n 1 dX10_late_0 rfl rfl ?_
  refine x_i2l dX10_late_1 ?_
  refine x_lconst (x := 0) dX10_late_2 (okJ_c rfl) rfl ?_
  refine x_aload_n 0 dX10_late_3 rfl rfl ?_
  refine x_get 10 dX10_late_4 fl_X10_147 hm rfl ?_
  refine x_i2l dX10_late_7 ?_
  refine x_callS [vJ t, vJ 0, vJ ((sSn S))] dX10_late_8 ks_X10_50 rfl rfl (by omega) (Nat.le_of_ble_eq_true rfl) (by omega) (by omega) (k_X10_in (d := 0)) (after_ret ?_)
  refine x_if_ne 20 dX10_late_11 (by decide) (fun c_11 => ?_) (fun c_11 => ?_)
  · have p_11 := b2i_ne c_11
    refine x_aload_n 0 dX10_late_20 rfl rfl ?_
    refine x_get 11 dX10_late_21 fl_X10_32 hm rfl ?_
    refine x_if_ge 34 dX10_late_24 (by decide) (fun c_24 => ?_) (fun c_24 => ?_)
    · have w1 := s9.2.1
      refine x_aload_n 0 dX10_late_34 rfl rfl ?_
      refine x_iload_n 1 dX10_late_35 rfl rfl ?_
      refine x_callV [vI t] dX10_late_36 kv_X10_160 rfl rfl hm (by omega) (Nat.le_of_ble_eq_true rfl) (by omega) (by omega) (k_X10_lateAt (d := 2) (by omega) hM hS ⟨by omega, s11⟩ (t := t) (by omega) (by omega)) (after_ret ?_)
      refine x_nmI (fun x1 e_x1 => ?_)
      refine x_istore_n (L' := [(2, vI x1), (0, vA m), (1, vI t)]) dX10_late_39 rfl (Nat.le_of_ble_eq_true rfl) rfl ?_
      have w2 : -1 ≤ x1 := by rw [e_x1]; exact lateS_ge
      refine x_iload_n 0 dX10_late_40 rfl rfl ?_
      refine x_if_ge 53 dX10_late_41 (by decide) (fun c_41 => ?_) (fun c_41 => ?_)
      · refine x_aload_n 1 dX10_late_53 rfl rfl ?_
        refine x_iload_n 0 dX10_late_54 rfl rfl ?_
        refine x_callV [vI x1] dX10_late_55 kv_X10_73 rfl rfl hm (by omega) (Nat.le_of_ble_eq_true rfl) (by omega) (by omega) (k_X10_fine (d := 0) (S := S)  (hM)) (fun r1 h1 q1 => ?_)
        obtain ⟨rfl, hCz, hFz⟩ := q1
        exact x_ireturn dX10_late_58 rfl (by omega) (by omega) (outM (by rw [oLate, if_neg (by omega), if_neg (by omega), ← e_x1, if_neg (by omega)]; rfl) hCz (MFr.trans MFr.refl hFz))
      · refine x_aload_n 1 dX10_late_44 rfl rfl ?_
        refine x_bipush dX10_late_45 (okI_c rfl) (by decide +kernel) ?_
        refine x_callV [vI ((-5))] dX10_late_47 kv_X10_58 rfl rfl hm (by omega) (Nat.le_of_ble_eq_true rfl) (by omega) (by omega) (k_X10_refuse (d := 0) (S := S)  (hM)) (fun r1 h1 q1 => ?_)
        obtain ⟨rfl, hCz, hFz⟩ := q1
        refine x_goto 58 dX10_late_50 (by decide) ?_
        exact x_ireturn dX10_late_58 rfl (by omega) (by omega) (outM (by rw [oLate, if_neg (by omega), if_neg (by omega), ← e_x1, if_pos (by omega)]; rfl) hCz (MFr.trans MFr.refl hFz))
    · refine x_aload_n 0 dX10_late_27 rfl rfl ?_
      refine x_bipush dX10_late_28 (okI_c rfl) (by decide +kernel) ?_
      refine x_callV [vI ((-2))] dX10_late_30 kv_X10_58 rfl rfl hm (by omega) (Nat.le_of_ble_eq_true rfl) (by omega) (by omega) (k_X10_refuse (d := 0) (S := S)  (hM)) (fun r1 h1 q1 => ?_)
      obtain ⟨rfl, hCz, hFz⟩ := q1
      exact x_ireturn dX10_late_33 rfl (by omega) (by omega) (outM (by rw [oLate, if_neg (by omega), if_pos (by omega)]; rfl) hCz (MFr.trans MFr.refl hFz))
  · have p_11 := b2i_eq c_11
    refine x_aload_n 0 dX10_late_14 rfl rfl ?_
    refine x_iconst dX10_late_15 (okI_c rfl) ?_
    refine x_callV [vI ((-1))] dX10_late_16 kv_X10_58 rfl rfl hm (by omega) (Nat.le_of_ble_eq_true rfl) (by omega) (by omega) (k_X10_refuse (d := 0) (S := S)  (hM)) (fun r1 h1 q1 => ?_)
    obtain ⟨rfl, hCz, hFz⟩ := q1
    exact x_ireturn dX10_late_19 rfl (by omega) (by omega) (outM (by rw [oLate, if_pos (by omega)]; rfl) hCz (MFr.trans MFr.refl hFz))
set_option maxRecDepth 100000 in
set_option maxHeartbeats 4000000 in
theorem k_X10_mostHeld {G : aG} {d : Nat} (hd : 5 ≤ d) {m b1 b2 b3 b4 b5 b6 b7 b8 b9 lo hi : Nat} {S : aS} {nc : Nat} {h : aH} (hM : MRel m b1 b2 b3 b4 b5 b6 b7 b8 b9 lo hi S h) (hS : SOk nc S)  : MC G mX10_mostHeld d 0 0 [vA m] h (MOut m b1 b2 b3 b4 b5 b6 b7 b8 b9 lo hi h vJ (oMostHeld S)) := by
  obtain ⟨⟨o0, o1, o2, o3, o4, o5, o6, o7, o8, o9, oA⟩, hm, ⟨gT, gD, gC, gK, gA, hb1, hb2, hb3, hb4, hb5, hcu⟩, ⟨fr, hb6, hrw⟩, ⟨sm, hb7, hsm⟩, ⟨g8, hb8, htl⟩, ⟨gw, hb9⟩⟩ := id hM
  obtain ⟨⟨s1, s2⟩, s3, ⟨s4, s5⟩, ⟨s6, s7, s8⟩, s9, ⟨s10, s11⟩, s12⟩ := id hS
  refine MC.of (by decide) (Nat.le_of_ble_eq_true rfl) (fun ok okh => ?_)
  show EX G mX10_mostHeld d 0 0 _ 0 [(0, vA m)] [] h 0 0
  refine x_aload_n 0 dX10_mostHeld_0 rfl rfl ?_
  refine x_get 11 dX10_mostHeld_1 fl_X10_32 hm rfl ?_
  refine x_if_ge 14 dX10_mostHeld_4 (by decide) (fun c_4 => ?_) (fun c_4 => ?_)
  · refine x_lconst (x := 0) dX10_mostHeld_14 (okJ_c rfl) rfl ?_
    refine x_lstore_n (L' := [(1, vJ 0), (0, vA m)]) dX10_mostHeld_15 rfl (Nat.le_of_ble_eq_true rfl) rfl ?_
    refine x_iconst dX10_mostHeld_16 (okI_c rfl) ?_
    refine x_istore_n (L' := [(3, vI 0), (1, vJ 0), (0, vA m)]) dX10_mostHeld_17 rfl (Nat.le_of_ble_eq_true rfl) rfl ?_
    have loop_18 : ∀ (k_18 : Nat) (v : Int) (t : Int) , (sSn S + 1 - t).toNat < k_18 → (0 ≤ t) → (t ≤ sSn S + 1) → (v = sup0 (fun t => arrS (sSn S) (sSm S) t - servS (sSn S) (sSm S) (sF S (sSv S)) t) t.toNat) → EX G mX10_mostHeld d 0 0 (MOut m b1 b2 b3 b4 b5 b6 b7 b8 b9 lo hi h vJ (oMostHeld S)) 18 [(0, vA m), (1, vJ v), (3, vI t)] [] h 0 0 := by
      intro k_18
      induction k_18 with
      | zero => intro v t hm; exact absurd hm (Nat.not_lt_zero _)
      | succ k_18 ih_18 =>
        intro v t hm_18 ht0 ht1 hv
        refine x_iload_n 2 dX10_mostHeld_18 rfl rfl ?_
        refine x_aload_n 0 dX10_mostHeld_19 rfl rfl ?_
        refine x_get 10 dX10_mostHeld_20 fl_X10_147 hm rfl ?_
        refine x_icmp_gt 59 dX10_mostHeld_23 (by decide) (fun c_23 => ?_) (fun c_23 => ?_)
        · refine x_aload_n 0 dX10_mostHeld_59 rfl rfl ?_
          refine x_lload_n 1 dX10_mostHeld_60 rfl rfl ?_
          refine x_callV [vJ v] dX10_mostHeld_61 kv_X10_132 rfl rfl hm (by omega) (Nat.le_of_ble_eq_true rfl) (by omega) (by omega) (k_X10_fineLong (d := 0) (S := S)  (hM)) (fun r1 h1 q1 => ?_)
          obtain ⟨rfl, hCz, hFz⟩ := q1
          exact x_lreturn dX10_mostHeld_64 rfl (by omega) (by omega) (outM (by rw [oMostHeld, if_neg (by omega), show sSn S + 1 = t by omega, ← hv]; rfl) hCz (MFr.trans MFr.refl hFz))
        · have w0 := s9.2.1
          refine x_aload_n 0 dX10_mostHeld_26 rfl rfl ?_
          refine x_iload_n 2 dX10_mostHeld_27 rfl rfl ?_
          refine x_callV [vI t] dX10_mostHeld_28 kv_X10_150 rfl rfl hm (by omega) (Nat.le_of_ble_eq_true rfl) (by omega) (by omega) (k_X10_came (d := 0) hM hS (t := t) (by omega)) (after_ret ?_)
          refine x_aload_n 0 dX10_mostHeld_31 rfl rfl ?_
          refine x_iload_n 2 dX10_mostHeld_32 rfl rfl ?_
          refine x_callV [vI t] dX10_mostHeld_33 kv_X10_157 rfl rfl hm (by omega) (Nat.le_of_ble_eq_true rfl) (by omega) (by omega) (k_X10_served (d := 1) (by omega) hM hS ⟨by omega, s11⟩ (t := t) (by omega) (by omega)) (after_ret ?_)
          have w1 := arr_top (t := t) s9 (by omega)
          have w2 := serv_top (t := t) s9 (cval_M (s3 (sSv S) (by omega) s11)) (by omega)
          have w3 : 0 ≤ servS (sSn S) (sSm S) (sF S (sSv S)) t ∧ servS (sSn S) (sSm S) (sF S (sSv S)) t ≤ arrS (sSn S) (sSm S) t := w2
          refine x_lsub dX10_mostHeld_36 (by unfold okJ; omega) ?_
          refine x_nmJ (fun x1 e_x1 => ?_)
          refine x_lstore (L' := [(4, vJ x1), (0, vA m), (1, vJ v), (3, vI t)]) dX10_mostHeld_37 (Nat.le_of_ble_eq_true rfl) rfl ?_
          refine x_lload 0 dX10_mostHeld_39 rfl ?_
          refine x_lload_n 2 dX10_mostHeld_41 rfl rfl ?_
          refine x_lc_le 51 dX10_mostHeld_42 dX10_mostHeld_43 (by decide) (fun c_42 => ?_) (fun c_42 => ?_)
          · refine x_lload_n 2 dX10_mostHeld_51 rfl rfl ?_
            refine x_lstore_n (L' := [(1, vJ v), (4, vJ x1), (0, vA m), (3, vI t)]) dX10_mostHeld_52 rfl (Nat.le_of_ble_eq_true rfl) rfl ?_
            refine x_iinc 3 (L' := [(3, vI (t + 1)), (1, vJ v), (4, vJ x1), (0, vA m)]) dX10_mostHeld_53 rfl (by unfold okI; omega) (Nat.le_of_ble_eq_true rfl) rfl ?_
            refine x_goto 18 dX10_mostHeld_56 (by decide) ?_
            exact EX.pick [3, 1, 0] rfl (ih_18 v (t + 1)  (by omega) (by omega) (by omega) (by rw [sup0_s ht0, ← hv]; show _ = max v (arrS (sSn S) (sSm S) t - servS (sSn S) (sSm S) (sF S (sSv S)) t); omega))
          · refine x_lload 0 dX10_mostHeld_46 rfl ?_
            refine x_goto 52 dX10_mostHeld_48 (by decide) ?_
            refine x_lstore_n (L' := [(1, vJ x1), (4, vJ x1), (0, vA m), (3, vI t)]) dX10_mostHeld_52 rfl (Nat.le_of_ble_eq_true rfl) rfl ?_
            refine x_iinc 3 (L' := [(3, vI (t + 1)), (1, vJ x1), (4, vJ x1), (0, vA m)]) dX10_mostHeld_53 rfl (by unfold okI; omega) (Nat.le_of_ble_eq_true rfl) rfl ?_
            refine x_goto 18 dX10_mostHeld_56 (by decide) ?_
            exact EX.pick [3, 1, 0] rfl (ih_18 x1 (t + 1)  (by omega) (by omega) (by omega) (by rw [sup0_s ht0, ← hv]; show _ = max v (arrS (sSn S) (sSm S) t - servS (sSn S) (sSm S) (sF S (sSv S)) t); omega))
    exact EX.pick [2, 1, 0] rfl (loop_18 ((sSn S + 1 - (0 : Int)).toNat + 1) 0 0  (Nat.lt_succ_self _) (by omega) (by have := s9.1; omega) rfl)
  · refine x_aload_n 0 dX10_mostHeld_7 rfl rfl ?_
    refine x_bipush dX10_mostHeld_8 (okI_c rfl) (by decide +kernel) ?_
    refine x_callV [vI ((-2))] dX10_mostHeld_10 kv_X10_128 rfl rfl hm (by omega) (Nat.le_of_ble_eq_true rfl) (by omega) (by omega) (k_X10_none (d := 0) (S := S)  (hM)) (fun r1 h1 q1 => ?_)
    obtain ⟨rfl, hCz, hFz⟩ := q1
    exact x_lreturn dX10_mostHeld_13 rfl (by omega) (by omega) (outM (by rw [oMostHeld, if_pos (by omega)]; rfl) hCz (MFr.trans MFr.refl hFz))
set_option maxRecDepth 100000 in
set_option maxHeartbeats 4000000 in
theorem k_X10_mostLate {G : aG} {d : Nat} (hd : 5 ≤ d) {m b1 b2 b3 b4 b5 b6 b7 b8 b9 lo hi : Nat} {S : aS} {nc : Nat} {h : aH} (hM : MRel m b1 b2 b3 b4 b5 b6 b7 b8 b9 lo hi S h) (hS : SOk nc S)  : MC G mX10_mostLate d 0 0 [vA m] h (MOut m b1 b2 b3 b4 b5 b6 b7 b8 b9 lo hi h vI (oMostLate S)) := by
  obtain ⟨⟨o0, o1, o2, o3, o4, o5, o6, o7, o8, o9, oA⟩, hm, ⟨gT, gD, gC, gK, gA, hb1, hb2, hb3, hb4, hb5, hcu⟩, ⟨fr, hb6, hrw⟩, ⟨sm, hb7, hsm⟩, ⟨g8, hb8, htl⟩, ⟨gw, hb9⟩⟩ := id hM
  obtain ⟨⟨s1, s2⟩, s3, ⟨s4, s5⟩, ⟨s6, s7, s8⟩, s9, ⟨s10, s11⟩, s12⟩ := id hS
  refine MC.of (by decide) (Nat.le_of_ble_eq_true rfl) (fun ok okh => ?_)
  show EX G mX10_mostLate d 0 0 _ 0 [(0, vA m)] [] h 0 0
  refine x_aload_n 0 dX10_mostLate_0 rfl rfl ?_
  refine x_get 11 dX10_mostLate_1 fl_X10_32 hm rfl ?_
  refine x_if_ge 14 dX10_mostLate_4 (by decide) (fun c_4 => ?_) (fun c_4 => ?_)
  · refine x_iconst dX10_mostLate_14 (okI_c rfl) ?_
    refine x_istore_n (L' := [(1, vI 0), (0, vA m)]) dX10_mostLate_15 rfl (Nat.le_of_ble_eq_true rfl) rfl ?_
    refine x_iconst dX10_mostLate_16 (okI_c rfl) ?_
    refine x_istore_n (L' := [(2, vI 0), (1, vI 0), (0, vA m)]) dX10_mostLate_17 rfl (Nat.le_of_ble_eq_true rfl) rfl ?_
    have loop_18 : ∀ (k_18 : Nat) (v : Int) (t : Int) , (sSn S + 1 - t).toNat < k_18 → (0 ≤ t) → (t ≤ sSn S + 1) → (0 ≤ v) → (v ≤ 500) → (v = sup0 (lateS (sSn S) (sSm S) (sF S (sSv S))) t.toNat) → (∀ u : Int, 0 ≤ u → u < t → 0 ≤ lateS (sSn S) (sSm S) (sF S (sSv S)) u) → EX G mX10_mostLate d 0 0 (MOut m b1 b2 b3 b4 b5 b6 b7 b8 b9 lo hi h vI (oMostLate S)) 18 [(0, vA m), (1, vI v), (2, vI t)] [] h 0 0 := by
      intro k_18
      induction k_18 with
      | zero => intro v t hm; exact absurd hm (Nat.not_lt_zero _)
      | succ k_18 ih_18 =>
        intro v t hm_18 ht0 ht1 hv0 hv1 hv hw
        refine x_iload_n 2 dX10_mostLate_18 rfl rfl ?_
        refine x_aload_n 0 dX10_mostLate_19 rfl rfl ?_
        refine x_get 10 dX10_mostLate_20 fl_X10_147 hm rfl ?_
        refine x_icmp_gt 60 dX10_mostLate_23 (by decide) (fun c_23 => ?_) (fun c_23 => ?_)
        · refine x_aload_n 0 dX10_mostLate_60 rfl rfl ?_
          refine x_iload_n 1 dX10_mostLate_61 rfl rfl ?_
          refine x_callV [vI v] dX10_mostLate_62 kv_X10_73 rfl rfl hm (by omega) (Nat.le_of_ble_eq_true rfl) (by omega) (by omega) (k_X10_fine (d := 0) (S := S)  (hM)) (fun r1 h1 q1 => ?_)
          obtain ⟨rfl, hCz, hFz⟩ := q1
          exact x_ireturn dX10_mostLate_65 rfl (by omega) (by omega) (outM (by have z := mostLateS_t (n := sSn S) (sm := sSm S) (G := sF S (sSv S)) (fun u q1 q2 => by have := hw u q1 (by omega); omega); rw [oMostLate, if_neg (by omega), z, show sSn S + 1 = t by omega, ← hv, if_neg (by omega)]; rfl) hCz (MFr.trans MFr.refl hFz))
        · have w0 := s9.2.1
          refine x_aload_n 0 dX10_mostLate_26 rfl rfl ?_
          refine x_iload_n 2 dX10_mostLate_27 rfl rfl ?_
          refine x_callV [vI t] dX10_mostLate_28 kv_X10_160 rfl rfl hm (by omega) (Nat.le_of_ble_eq_true rfl) (by omega) (by omega) (k_X10_lateAt (d := 2) (by omega) hM hS ⟨by omega, s11⟩ (t := t) (by omega) (by omega)) (after_ret ?_)
          refine x_nmI (fun x1 e_x1 => ?_)
          refine x_istore_n (L' := [(3, vI x1), (0, vA m), (1, vI v), (2, vI t)]) dX10_mostLate_31 rfl (Nat.le_of_ble_eq_true rfl) rfl ?_
          have w2 : x1 ≤ 500 := by rw [e_x1]; exact lateS_le
          have w3 : -1 ≤ x1 := by rw [e_x1]; exact lateS_ge
          refine x_iload_n 0 dX10_mostLate_32 rfl rfl ?_
          refine x_if_ge 43 dX10_mostLate_33 (by decide) (fun c_33 => ?_) (fun c_33 => ?_)
          · refine x_iload_n 0 dX10_mostLate_43 rfl rfl ?_
            refine x_iload_n 2 dX10_mostLate_44 rfl rfl ?_
            refine x_icmp_le 52 dX10_mostLate_45 (by decide) (fun c_45 => ?_) (fun c_45 => ?_)
            · refine x_iload_n 2 dX10_mostLate_52 rfl rfl ?_
              refine x_istore_n (L' := [(1, vI v), (3, vI x1), (0, vA m), (2, vI t)]) dX10_mostLate_53 rfl (Nat.le_of_ble_eq_true rfl) rfl ?_
              refine x_iinc 3 (L' := [(2, vI (t + 1)), (1, vI v), (3, vI x1), (0, vA m)]) dX10_mostLate_54 rfl (by unfold okI; omega) (Nat.le_of_ble_eq_true rfl) rfl ?_
              refine x_goto 18 dX10_mostLate_57 (by decide) ?_
              exact EX.pick [3, 1, 0] rfl (ih_18 v (t + 1)  (by omega) (by omega) (by omega) (by omega) (by omega) (by rw [sup0_s ht0, ← hv, ← e_x1]; omega) (fun u q1 q2 => by by_cases q : u = t; subst q; omega; exact hw u q1 (by omega)))
            · refine x_iload_n 0 dX10_mostLate_48 rfl rfl ?_
              refine x_goto 53 dX10_mostLate_49 (by decide) ?_
              refine x_istore_n (L' := [(1, vI x1), (3, vI x1), (0, vA m), (2, vI t)]) dX10_mostLate_53 rfl (Nat.le_of_ble_eq_true rfl) rfl ?_
              refine x_iinc 3 (L' := [(2, vI (t + 1)), (1, vI x1), (3, vI x1), (0, vA m)]) dX10_mostLate_54 rfl (by unfold okI; omega) (Nat.le_of_ble_eq_true rfl) rfl ?_
              refine x_goto 18 dX10_mostLate_57 (by decide) ?_
              exact EX.pick [3, 1, 0] rfl (ih_18 x1 (t + 1)  (by omega) (by omega) (by omega) (by omega) (by omega) (by rw [sup0_s ht0, ← hv, ← e_x1]; omega) (fun u q1 q2 => by by_cases q : u = t; subst q; omega; exact hw u q1 (by omega)))
          · refine x_aload_n 1 dX10_mostLate_36 rfl rfl ?_
            refine x_bipush dX10_mostLate_37 (okI_c rfl) (by decide +kernel) ?_
            refine x_callV [vI ((-5))] dX10_mostLate_39 kv_X10_58 rfl rfl hm (by omega) (Nat.le_of_ble_eq_true rfl) (by omega) (by omega) (k_X10_refuse (d := 0) (S := S)  (hM)) (fun r1 h1 q1 => ?_)
            obtain ⟨rfl, hCz, hFz⟩ := q1
            exact x_ireturn dX10_mostLate_42 rfl (by omega) (by omega) (outM (by rw [oMostLate, if_neg (by omega), if_pos (mostLateS_f ht0 (by omega) (by rw [← e_x1]; omega))]; rfl) hCz (MFr.trans MFr.refl hFz))
    exact EX.pick [2, 1, 0] rfl (loop_18 ((sSn S + 1 - (0 : Int)).toNat + 1) 0 0  (Nat.lt_succ_self _) (by omega) (by have := s9.1; omega) (by omega) (by omega) rfl (fun u q1 q2 => by omega))
  · refine x_aload_n 0 dX10_mostLate_7 rfl rfl ?_
    refine x_bipush dX10_mostLate_8 (okI_c rfl) (by decide +kernel) ?_
    refine x_callV [vI ((-2))] dX10_mostLate_10 kv_X10_58 rfl rfl hm (by omega) (Nat.le_of_ble_eq_true rfl) (by omega) (by omega) (k_X10_refuse (d := 0) (S := S)  (hM)) (fun r1 h1 q1 => ?_)
    obtain ⟨rfl, hCz, hFz⟩ := q1
    exact x_ireturn dX10_mostLate_13 rfl (by omega) (by omega) (outM (by rw [oMostLate, if_pos (by omega)]; rfl) hCz (MFr.trans MFr.refl hFz))
def KpU (A F : Int → Int) (t s : Int) : Prop := ∀ u v : Int, 0 ≤ v → v ≤ u → (u < t ∨ (u = t ∧ v < s)) → A u - A v ≤ F (u - v)
theorem KpU.next {A F : Int → Int} {t s : Int} (h : KpU A F t s) (hs : t < s) : KpU A F (t + 1) 0 := fun u v q1 q2 q3 => h u v q1 q2 (by omega)
theorem KpU.back {A F : Int → Int} {t s : Int} (h : KpU A F (t + 1) 0) : KpU A F t s := fun u v q1 q2 q3 => h u v q1 q2 (by omega)
theorem KpU.one {A F : Int → Int} {t s : Int} (h : KpU A F t s) (k : A t - A s ≤ F (t - s)) : KpU A F t (s + 1) := fun u v q1 q2 q3 => by
  by_cases q : u = t ∧ v = s
  · obtain ⟨rfl, rfl⟩ := q; exact k
  · exact h u v q1 q2 (by omega)
theorem KpU.all {n t : Int} {sm : Nat → Int} {F : Int → Int} (h : KpU (arrS n sm) F t 0) (ht : n < t) : keepsS n sm F := fun u v q1 q2 q3 => h u v q1 q2 (by omega)
theorem KpU.of {n t s : Int} {sm : Nat → Int} {F : Int → Int} (h : keepsS n sm F) (ht : t < n + 1 ∨ (t = n + 1 ∧ s = 0)) : KpU (arrS n sm) F t s := fun u v q1 q2 q3 => h u v q1 q2 (by omega)
set_option maxRecDepth 100000 in
set_option maxHeartbeats 4000000 in
theorem k_X10_keeps {G : aG} {d : Nat} (hd : 5 ≤ d) {m b1 b2 b3 b4 b5 b6 b7 b8 b9 lo hi : Nat} {S : aS} {nc : Nat} {h : aH} (hM : MRel m b1 b2 b3 b4 b5 b6 b7 b8 b9 lo hi S h) (hS : SOk nc S) {f : Int} : MC G mX10_keeps d 0 0 [vA m, vI f] h (MOut m b1 b2 b3 b4 b5 b6 b7 b8 b9 lo hi h vI (oKeeps f S)) := by
  obtain ⟨⟨o0, o1, o2, o3, o4, o5, o6, o7, o8, o9, oA⟩, hm, ⟨gT, gD, gC, gK, gA, hb1, hb2, hb3, hb4, hb5, hcu⟩, ⟨fr, hb6, hrw⟩, ⟨sm, hb7, hsm⟩, ⟨g8, hb8, htl⟩, ⟨gw, hb9⟩⟩ := id hM
  obtain ⟨⟨s1, s2⟩, s3, ⟨s4, s5⟩, ⟨s6, s7, s8⟩, s9, ⟨s10, s11⟩, s12⟩ := id hS
  refine MC.of (by decide) (Nat.le_of_ble_eq_true rfl) (fun ok okh => ?_)
  show EX G mX10_keeps d 0 0 _ 0 [(0, vA m), (1, vI f)] [] h 0 0
  refine x_aload_n 0 dX10_keeps_0 rfl rfl ?_
  refine x_iload_n 1 dX10_keeps_1 rfl rfl ?_
  refine x_callV [vI f] dX10_keeps_2 kv_X10_109 rfl rfl hm (by omega) (Nat.le_of_ble_eq_true rfl) (by omega) (by omega) (k_X10_isCurve (d := 1) (by omega) hM hS (f := f)) (after_ret ?_)
  refine x_if_ne 14 dX10_keeps_5 (by decide) (fun c_5 => ?_) (fun c_5 => ?_)
  · have p_5 := b2i_ne c_5
    refine x_iconst dX10_keeps_14 (okI_c rfl) ?_
    refine x_istore_n (L' := [(2, vI 1), (0, vA m), (1, vI f)]) dX10_keeps_15 rfl (Nat.le_of_ble_eq_true rfl) rfl ?_
    refine x_iconst dX10_keeps_16 (okI_c rfl) ?_
    refine x_istore_n (L' := [(3, vI 0), (2, vI 1), (0, vA m), (1, vI f)]) dX10_keeps_17 rfl (Nat.le_of_ble_eq_true rfl) rfl ?_
    have loop_18 : ∀ (k_18 : Nat) (ie : Int) (t : Int) , (sSn S + 1 - t).toNat < k_18 → (0 ≤ t) → (t ≤ sSn S + 1) → (ie = b2i (KpU (arrS (sSn S) (sSm S)) (sF S f) t 0)) → EX G mX10_keeps d 0 0 (MOut m b1 b2 b3 b4 b5 b6 b7 b8 b9 lo hi h vI (oKeeps f S)) 18 [(0, vA m), (1, vI f), (2, vI ie), (3, vI t)] [] h 0 0 := by
      intro k_18
      induction k_18 with
      | zero => intro ie t hm; exact absurd hm (Nat.not_lt_zero _)
      | succ k_18 ih_18 =>
        intro ie t hm_18 ht0 ht1 hie
        refine x_iload_n 3 dX10_keeps_18 rfl rfl ?_
        refine x_aload_n 0 dX10_keeps_19 rfl rfl ?_
        refine x_get 10 dX10_keeps_20 fl_X10_147 hm rfl ?_
        refine x_icmp_gt 87 dX10_keeps_23 (by decide) (fun c_23 => ?_) (fun c_23 => ?_)
        · refine x_aload_n 0 dX10_keeps_87 rfl rfl ?_
          refine x_iload_n 2 dX10_keeps_88 rfl rfl ?_
          refine x_if_eq 96 dX10_keeps_89 (by decide) (fun c_89 => ?_) (fun c_89 => ?_)
          · refine x_iconst dX10_keeps_96 (okI_c rfl) ?_
            refine x_callV [vI 0] dX10_keeps_97 kv_X10_73 rfl rfl hm (by omega) (Nat.le_of_ble_eq_true rfl) (by omega) (by omega) (k_X10_fine (d := 0) (S := S)  (hM)) (fun r1 h1 q1 => ?_)
            obtain ⟨rfl, hCz, hFz⟩ := q1
            exact x_ireturn dX10_keeps_100 rfl (by omega) (by omega) (outM (by rw [oKeeps, cond_f (fun z => z p_5)]; exact congrArg (fun z : Int => (z, sLa 0 S)) (b2i_f (fun z => (b2i_eq (P := KpU (arrS (sSn S) (sSm S)) (sF S f) t 0) (by rw [← hie]; exact c_89)) (KpU.of z (by omega))))) hCz (MFr.trans MFr.refl hFz))
          · refine x_iconst dX10_keeps_92 (okI_c rfl) ?_
            refine x_goto 97 dX10_keeps_93 (by decide) ?_
            refine x_callV [vI 1] dX10_keeps_97 kv_X10_73 rfl rfl hm (by omega) (Nat.le_of_ble_eq_true rfl) (by omega) (by omega) (k_X10_fine (d := 0) (S := S)  (hM)) (fun r1 h1 q1 => ?_)
            obtain ⟨rfl, hCz, hFz⟩ := q1
            exact x_ireturn dX10_keeps_100 rfl (by omega) (by omega) (outM (by rw [oKeeps, cond_f (fun z => z p_5)]; exact congrArg (fun z : Int => (z, sLa 0 S)) (b2i_t (KpU.all (b2i_ne (P := KpU (arrS (sSn S) (sSm S)) (sF S f) t 0) (by rw [← hie]; exact c_89)) (by first | omega | exact absurd c_27 c_89)))) hCz (MFr.trans MFr.refl hFz))
        · have w0 := s9.2.1
          refine x_iload_n 2 dX10_keeps_26 rfl rfl ?_
          refine x_if_eq 87 dX10_keeps_27 (by decide) (fun c_27 => ?_) (fun c_27 => ?_)
          · refine x_aload_n 0 dX10_keeps_87 rfl rfl ?_
            refine x_iload_n 2 dX10_keeps_88 rfl rfl ?_
            refine x_if_eq 96 dX10_keeps_89 (by decide) (fun c_89 => ?_) (fun c_89 => ?_)
            · refine x_iconst dX10_keeps_96 (okI_c rfl) ?_
              refine x_callV [vI 0] dX10_keeps_97 kv_X10_73 rfl rfl hm (by omega) (Nat.le_of_ble_eq_true rfl) (by omega) (by omega) (k_X10_fine (d := 0) (S := S)  (hM)) (fun r1 h1 q1 => ?_)
              obtain ⟨rfl, hCz, hFz⟩ := q1
              exact x_ireturn dX10_keeps_100 rfl (by omega) (by omega) (outM (by rw [oKeeps, cond_f (fun z => z p_5)]; exact congrArg (fun z : Int => (z, sLa 0 S)) (b2i_f (fun z => (b2i_eq (P := KpU (arrS (sSn S) (sSm S)) (sF S f) t 0) (by rw [← hie]; exact c_89)) (KpU.of z (by omega))))) hCz (MFr.trans MFr.refl hFz))
            · refine x_iconst dX10_keeps_92 (okI_c rfl) ?_
              refine x_goto 97 dX10_keeps_93 (by decide) ?_
              refine x_callV [vI 1] dX10_keeps_97 kv_X10_73 rfl rfl hm (by omega) (Nat.le_of_ble_eq_true rfl) (by omega) (by omega) (k_X10_fine (d := 0) (S := S)  (hM)) (fun r1 h1 q1 => ?_)
              obtain ⟨rfl, hCz, hFz⟩ := q1
              exact x_ireturn dX10_keeps_100 rfl (by omega) (by omega) (outM (by rw [oKeeps, cond_f (fun z => z p_5)]; exact congrArg (fun z : Int => (z, sLa 0 S)) (b2i_t (KpU.all (b2i_ne (P := KpU (arrS (sSn S) (sSm S)) (sF S f) t 0) (by rw [← hie]; exact c_89)) (by first | omega | exact absurd c_27 c_89)))) hCz (MFr.trans MFr.refl hFz))
          · refine x_iconst dX10_keeps_30 (okI_c rfl) ?_
            refine x_istore (L' := [(4, vI 0), (0, vA m), (1, vI f), (2, vI ie), (3, vI t)]) dX10_keeps_31 (Nat.le_of_ble_eq_true rfl) rfl ?_
            have loop_33 : ∀ (k_33 : Nat) (ie : Int) (s : Int) , (t + 1 - s).toNat < k_33 → (0 ≤ s) → (s ≤ t + 1) → (ie = b2i (KpU (arrS (sSn S) (sSm S)) (sF S f) t s)) → EX G mX10_keeps d 0 0 (MOut m b1 b2 b3 b4 b5 b6 b7 b8 b9 lo hi h vI (oKeeps f S)) 33 [(0, vA m), (1, vI f), (2, vI ie), (3, vI t), (4, vI s)] [] h 0 0 := by
              intro k_33
              induction k_33 with
              | zero => intro ie s hm; exact absurd hm (Nat.not_lt_zero _)
              | succ k_33 ih_33 =>
                intro ie s hm_33 hs0 hs1 hie
                refine x_iload 4 dX10_keeps_33 rfl ?_
                refine x_iload_n 3 dX10_keeps_35 rfl rfl ?_
                refine x_icmp_gt 81 dX10_keeps_36 (by decide) (fun c_36 => ?_) (fun c_36 => ?_)
                · refine x_iinc 3 (L' := [(3, vI (t + 1)), (0, vA m), (1, vI f), (2, vI ie), (4, vI s)]) dX10_keeps_81 rfl (by unfold okI; omega) (Nat.le_of_ble_eq_true rfl) rfl ?_
                  refine x_goto 18 dX10_keeps_84 (by decide) ?_
                  exact EX.pick [1, 2, 3, 0] rfl (ih_18 ie (t + 1)  (by omega) (by omega) (by omega) (by first | (rw [hie]; exact b2i_congr ⟨fun z => z.next (by omega), fun z => z.back⟩) | (rw [c_40]; exact (b2i_f (fun z => (b2i_eq (P := KpU (arrS (sSn S) (sSm S)) (sF S f) t s) (by rw [← hie]; exact c_40)) z.back)).symm)))
                · refine x_iload_n 2 dX10_keeps_39 rfl rfl ?_
                  refine x_if_eq 81 dX10_keeps_40 (by decide) (fun c_40 => ?_) (fun c_40 => ?_)
                  · refine x_iinc 3 (L' := [(3, vI (t + 1)), (0, vA m), (1, vI f), (2, vI ie), (4, vI s)]) dX10_keeps_81 rfl (by unfold okI; omega) (Nat.le_of_ble_eq_true rfl) rfl ?_
                    refine x_goto 18 dX10_keeps_84 (by decide) ?_
                    exact EX.pick [1, 2, 3, 0] rfl (ih_18 ie (t + 1)  (by omega) (by omega) (by omega) (by first | (rw [hie]; exact b2i_congr ⟨fun z => z.next (by omega), fun z => z.back⟩) | (rw [c_40]; exact (b2i_f (fun z => (b2i_eq (P := KpU (arrS (sSn S) (sSm S)) (sF S f) t s) (by rw [← hie]; exact c_40)) z.back)).symm)))
                  · have hp : KpU (arrS (sSn S) (sSm S)) (sF S f) t s := b2i_ne (by rw [← hie]; exact c_40)
                    refine x_aload_n 0 dX10_keeps_43 rfl rfl ?_
                    refine x_iload_n 3 dX10_keeps_44 rfl rfl ?_
                    refine x_callV [vI t] dX10_keeps_45 kv_X10_150 rfl rfl hm (by omega) (Nat.le_of_ble_eq_true rfl) (by omega) (by omega) (k_X10_came (d := 0) hM hS (t := t) (by omega)) (after_ret ?_)
                    refine x_aload_n 0 dX10_keeps_48 rfl rfl ?_
                    refine x_iload 4 dX10_keeps_49 rfl ?_
                    refine x_callV [vI s] dX10_keeps_51 kv_X10_150 rfl rfl hm (by omega) (Nat.le_of_ble_eq_true rfl) (by omega) (by omega) (k_X10_came (d := 0) hM hS (t := s) (by omega)) (after_ret ?_)
                    have w1 := arr_top (t := t) s9 (by omega)
                    have w2 := arr_top (t := s) s9 (by omega)
                    refine x_lsub dX10_keeps_54 (by unfold okJ; omega) ?_
                    refine x_aload_n 0 dX10_keeps_55 rfl rfl ?_
                    refine x_iload_n 1 dX10_keeps_56 rfl rfl ?_
                    refine x_iload_n 3 dX10_keeps_57 rfl rfl ?_
                    refine x_iload 4 dX10_keeps_58 rfl ?_
                    refine x_isub dX10_keeps_60 (by unfold okI; omega) ?_
                    refine x_i2l dX10_keeps_61 ?_
                    refine x_callV [vI f, vJ (t - s)] dX10_keeps_62 kv_X10_95 rfl rfl hm (by omega) (Nat.le_of_ble_eq_true rfl) (by omega) (by omega) (k_X10_value (d := 0) hM hS (f := f) (t := t - s) p_5 (by omega) (by omega)) (after_ret ?_)
                    refine x_lc_gt 73 dX10_keeps_65 dX10_keeps_66 (by decide) (fun c_65 => ?_) (fun c_65 => ?_)
                    · refine x_iconst dX10_keeps_73 (okI_c rfl) ?_
                      refine x_istore_n (L' := [(2, vI 0), (0, vA m), (1, vI f), (3, vI t), (4, vI s)]) dX10_keeps_74 rfl (Nat.le_of_ble_eq_true rfl) rfl ?_
                      refine x_iinc 4 (L' := [(4, vI (s + 1)), (2, vI 0), (0, vA m), (1, vI f), (3, vI t)]) dX10_keeps_75 rfl (by unfold okI; omega) (Nat.le_of_ble_eq_true rfl) rfl ?_
                      refine x_goto 33 dX10_keeps_78 (by decide) ?_
                      exact EX.pick [2, 3, 1, 4, 0] rfl (ih_33 0 (s + 1)  (by omega) (by omega) (by omega) (b2i_f (fun z => by have z1 := z t s (by omega) (by omega) (Or.inr ⟨rfl, by omega⟩); omega)).symm)
                    · refine x_iconst dX10_keeps_69 (okI_c rfl) ?_
                      refine x_goto 74 dX10_keeps_70 (by decide) ?_
                      refine x_istore_n (L' := [(2, vI 1), (0, vA m), (1, vI f), (3, vI t), (4, vI s)]) dX10_keeps_74 rfl (Nat.le_of_ble_eq_true rfl) rfl ?_
                      refine x_iinc 4 (L' := [(4, vI (s + 1)), (2, vI 1), (0, vA m), (1, vI f), (3, vI t)]) dX10_keeps_75 rfl (by unfold okI; omega) (Nat.le_of_ble_eq_true rfl) rfl ?_
                      refine x_goto 33 dX10_keeps_78 (by decide) ?_
                      exact EX.pick [2, 3, 1, 4, 0] rfl (ih_33 1 (s + 1)  (by omega) (by omega) (by omega) (b2i_t (hp.one c_65)).symm)
            exact EX.pick [1, 2, 3, 4, 0] rfl (loop_33 ((t + 1 - (0 : Int)).toNat + 1) ie 0  (Nat.lt_succ_self _) (by omega) (by omega) hie)
    exact EX.pick [2, 3, 1, 0] rfl (loop_18 ((sSn S + 1 - (0 : Int)).toNat + 1) 1 0  (Nat.lt_succ_self _) (by omega) (by have := s9.1; omega) (b2i_t (fun u v q1 q2 q3 => by omega)).symm)
  · have p_5 := b2i_eq c_5
    refine x_aload_n 0 dX10_keeps_8 rfl rfl ?_
    refine x_iconst dX10_keeps_9 (okI_c rfl) ?_
    refine x_callV [vI ((-1))] dX10_keeps_10 kv_X10_58 rfl rfl hm (by omega) (Nat.le_of_ble_eq_true rfl) (by omega) (by omega) (k_X10_refuse (d := 0) (S := S)  (hM)) (fun r1 h1 q1 => ?_)
    obtain ⟨rfl, hCz, hFz⟩ := q1
    exact x_ireturn dX10_keeps_13 rfl (by omega) (by omega) (outM (by rw [oKeeps, cond_t p_5]; rfl) hCz (MFr.trans MFr.refl hFz))
set_option maxRecDepth 100000 in
set_option maxHeartbeats 4000000 in
theorem k_X10_valueR {G : aG} {d : Nat} {m b1 b2 b3 b4 b5 b6 b7 b8 b9 : Nat} {S : aS} {h : aH} {gT gD gC gA : Nat → Int} (hm : h m = some (eO 9 [vI ((sCu S)), vA b1, vA b2, vA b3, vA b4, vA b5, vI ((sMu S)), vA b6, vI ((sRn S)), vA b7, vI ((sSn S)), vI ((sSv S)), vA b8, vI ((sLt S)), vA b9])) (hb1 : h b1 = some (eI 60 gT)) (hb2 : h b2 = some (eI 60 gD)) (hb3 : h b3 = some (eJ 60 gC)) (hb5 : h b5 = some (eJ 18000 gA)) {f T D C : Int} {A : Nat → Int} (hf0 : 0 ≤ f) (hf6 : f < 60) (eT : gT f.toNat = T) (eD : gD f.toNat = D) (eC : gC f.toNat = C) (eA : ∀ t : Int, 0 ≤ t → t < T + D → gA (300 * f + t).toNat = A t.toNat) (ok : CvOk T D C A) {t : Int} (ht0 : 0 ≤ t) (ht1 : t ≤ 2000000000) : MC G mX10_value d 0 0 [vA m, vI f, vJ t] h (Ret (vJ (cval T D C A t)) h) := by
  obtain ⟨hT0, hT2, hD0, hD6, hC0, hC1, hA, hM, hW⟩ := id ok
  refine MC.of (by decide) (Nat.le_of_ble_eq_true rfl) (fun ok okh => ?_)
  show EX G mX10_value d 0 0 _ 0 [(0, vA m), (1, vI f), (2, vJ t)] [] h 0 0
  refine x_lload_n 2 dX10_value_0 rfl rfl ?_
  refine x_aload_n 0 dX10_value_1 rfl rfl ?_
  refine x_get 1 dX10_value_2 fl_X10_7 hm rfl ?_
  refine x_iload_n 1 dX10_value_5 rfl rfl ?_
  refine x_iaload dX10_value_6 hb1 (by omega) (by omega) ?_
  refine x_asI (y := T) eT ?_
  refine x_i2l dX10_value_7 ?_
  refine x_lsub dX10_value_8 (by unfold okJ; omega) ?_
  refine x_nmJ (fun x1 e_x1 => ?_)
  refine x_lstore (L' := [(4, vJ x1), (0, vA m), (1, vI f), (2, vJ t)]) dX10_value_9 (Nat.le_of_ble_eq_true rfl) rfl ?_
  refine x_lload 0 dX10_value_11 rfl ?_
  refine x_aload_n 1 dX10_value_13 rfl rfl ?_
  refine x_get 2 dX10_value_14 fl_X10_13 hm rfl ?_
  refine x_iload_n 2 dX10_value_17 rfl rfl ?_
  refine x_iaload dX10_value_18 hb2 (by omega) (by omega) ?_
  refine x_asI (y := D) eD ?_
  refine x_i2l dX10_value_19 ?_
  refine x_lc_ge 38 dX10_value_20 dX10_value_21 (by decide) (fun c_20 => ?_) (fun c_20 => ?_)
  · have hmm := modB (x := x1) (y := D) (by omega)
    have hdd := divB (x := x1) (y := D) (by omega) (by omega)
    have hpp := mulB (x := x1 / D) (y := C) hdd.1 (by omega) (X := 2000000000) (Y := 1000000000) (by omega) (by omega)
    refine x_aload_n 1 dX10_value_38 rfl rfl ?_
    refine x_get 5 dX10_value_39 fl_X10_23 hm rfl ?_
    refine x_sipush dX10_value_42 (okI_c rfl) (by decide +kernel) ?_
    refine x_iload_n 2 dX10_value_45 rfl rfl ?_
    refine x_imul dX10_value_46 (by unfold okI; omega) ?_
    refine x_aload_n 1 dX10_value_47 rfl rfl ?_
    refine x_get 1 dX10_value_48 fl_X10_7 hm rfl ?_
    refine x_iload_n 2 dX10_value_51 rfl rfl ?_
    refine x_iaload dX10_value_52 hb1 (by omega) (by omega) ?_
    refine x_asI (y := T) eT ?_
    refine x_iadd dX10_value_53 (by unfold okI; omega) ?_
    refine x_lload 0 dX10_value_54 rfl ?_
    refine x_aload_n 1 dX10_value_56 rfl rfl ?_
    refine x_get 2 dX10_value_57 fl_X10_13 hm rfl ?_
    refine x_iload_n 2 dX10_value_60 rfl rfl ?_
    refine x_iaload dX10_value_61 hb2 (by omega) (by omega) ?_
    refine x_asI (y := D) eD ?_
    refine x_i2l dX10_value_62 ?_
    refine x_lrem dX10_value_63 (by omega) (by omega) ?_
    refine x_l2i dX10_value_64 (by unfold okI; omega) ?_
    refine x_iadd dX10_value_65 (by unfold okI; omega) ?_
    refine x_laload dX10_value_66 hb5 (by omega) (by omega) ?_
    refine x_asJ (y := (A (T + x1 % D).toNat)) (by have := eA (T + x1 % D) (by omega) (by omega); rw [← Int.add_assoc] at this; exact this) ?_
    refine x_lload 0 dX10_value_67 rfl ?_
    refine x_aload_n 1 dX10_value_69 rfl rfl ?_
    refine x_get 2 dX10_value_70 fl_X10_13 hm rfl ?_
    refine x_iload_n 2 dX10_value_73 rfl rfl ?_
    refine x_iaload dX10_value_74 hb2 (by omega) (by omega) ?_
    refine x_asI (y := D) eD ?_
    refine x_i2l dX10_value_75 ?_
    refine x_ldiv dX10_value_76 (by omega) (by omega) ?_
    refine x_aload_n 1 dX10_value_77 rfl rfl ?_
    refine x_get 3 dX10_value_78 fl_X10_16 hm rfl ?_
    refine x_iload_n 2 dX10_value_81 rfl rfl ?_
    refine x_laload dX10_value_82 hb3 (by omega) (by omega) ?_
    refine x_asJ (y := C) eC ?_
    refine x_lmul dX10_value_83 (by unfold okJ; omega) ?_
    refine x_ladd dX10_value_84 (by have := (hA (T + x1 % D) (by omega) (by omega)); unfold okJ; omega) ?_
    exact x_lreturn dX10_value_85 rfl (by decide) (by decide) (retJ (by rw [cval, if_neg (by omega), ← e_x1]))
  · refine x_aload_n 1 dX10_value_24 rfl rfl ?_
    refine x_get 5 dX10_value_25 fl_X10_23 hm rfl ?_
    refine x_sipush dX10_value_28 (okI_c rfl) (by decide +kernel) ?_
    refine x_iload_n 2 dX10_value_31 rfl rfl ?_
    refine x_imul dX10_value_32 (by unfold okI; omega) ?_
    refine x_lload_n 3 dX10_value_33 rfl rfl ?_
    refine x_l2i dX10_value_34 (by unfold okI; omega) ?_
    refine x_iadd dX10_value_35 (by unfold okI; omega) ?_
    refine x_laload dX10_value_36 hb5 (by omega) (by omega) ?_
    refine x_asJ (y := (A t.toNat)) (eA t ht0 (by omega)) ?_
    exact x_lreturn dX10_value_37 rfl (by decide) (by decide) (retJ (by rw [cval_lt (by omega)]))
theorem hstep_0 {F : Int → Int} {t : Int} (h : t = 1) : hstep F t = F t - 0 := by rw [hstep, if_pos h, h]; omega
theorem hstep_1 {F : Int → Int} {t : Int} (h : t ≠ 1) : hstep F t = F t - F (t - 1) := by rw [hstep, if_neg h]
set_option maxRecDepth 100000 in
set_option maxHeartbeats 4000000 in
theorem k_X10_hardest {G : aG} {d : Nat} (hd : 5 ≤ d) {m b1 b2 b3 b4 b5 b6 b7 b8 b9 lo hi : Nat} {S : aS} {nc : Nat} {h : aH} (hM : MRel m b1 b2 b3 b4 b5 b6 b7 b8 b9 lo hi S h) (hS : SOk nc S) {f : Int} {n : Int} : MC G mX10_hardest d 0 0 [vA m, vI f, vI n] h (MOut m b1 b2 b3 b4 b5 b6 b7 b8 b9 lo hi h vI (oHardest f n S)) := by
  obtain ⟨⟨o0, o1, o2, o3, o4, o5, o6, o7, o8, o9, oA⟩, hm, ⟨gT, gD, gC, gK, gA, hb1, hb2, hb3, hb4, hb5, hcu⟩, ⟨fr, hb6, hrw⟩, ⟨sm, hb7, hsm⟩, ⟨g8, hb8, htl⟩, ⟨gw, hb9⟩⟩ := id hM
  obtain ⟨⟨s1, s2⟩, s3, ⟨s4, s5⟩, ⟨s6, s7, s8⟩, s9, ⟨s10, s11⟩, s12⟩ := id hS
  refine MC.of (by decide) (Nat.le_of_ble_eq_true rfl) (fun ok okh => ?_)
  show EX G mX10_hardest d 0 0 _ 0 [(0, vA m), (1, vI f), (2, vI n)] [] h 0 0
  refine x_aload_n 0 dX10_hardest_0 rfl rfl ?_
  refine x_iload_n 1 dX10_hardest_1 rfl rfl ?_
  refine x_callV [vI f] dX10_hardest_2 kv_X10_109 rfl rfl hm (by omega) (Nat.le_of_ble_eq_true rfl) (by omega) (by omega) (k_X10_isCurve (d := 1) (by omega) hM hS (f := f)) (after_ret ?_)
  refine x_if_eq 20 dX10_hardest_5 (by decide) (fun c_5 => ?_) (fun c_5 => ?_)
  · have p_5 := b2i_eq c_5
    refine x_aload_n 0 dX10_hardest_20 rfl rfl ?_
    refine x_iconst dX10_hardest_21 (okI_c rfl) ?_
    refine x_callV [vI ((-1))] dX10_hardest_22 kv_X10_58 rfl rfl hm (by omega) (Nat.le_of_ble_eq_true rfl) (by omega) (by omega) (k_X10_refuse (d := 0) (S := S)  (hM)) (fun r1 h1 q1 => ?_)
    obtain ⟨rfl, hCz, hFz⟩ := q1
    exact x_ireturn dX10_hardest_25 rfl (by omega) (by omega) (outM (by rw [oHardest, cond_t (by first | exact Or.inl p_5 | exact Or.inr (Or.inl (by omega)))]; rfl) hCz (MFr.trans MFr.refl hFz))
  · have p_5 := b2i_ne c_5
    refine x_iload_n 2 dX10_hardest_8 rfl rfl ?_
    refine x_i2l dX10_hardest_9 ?_
    refine x_lconst (x := 0) dX10_hardest_10 (okJ_c rfl) rfl ?_
    refine x_ldc2 (n := 60) dX10_hardest_11 (okJ_c rfl) kc_X10_85 ?_
    refine x_callS [vJ n, vJ 0, vJ 60] dX10_hardest_14 ks_X10_50 rfl rfl (by omega) (Nat.le_of_ble_eq_true rfl) (by omega) (by omega) (k_X10_in (d := 0)) (after_ret ?_)
    refine x_if_ne 26 dX10_hardest_17 (by decide) (fun c_17 => ?_) (fun c_17 => ?_)
    · have p_17 := b2i_ne c_17
      refine x_iconst dX10_hardest_26 (okI_c rfl) ?_
      refine x_istore_n (L' := [(3, vI 1), (0, vA m), (1, vI f), (2, vI n)]) dX10_hardest_27 rfl (Nat.le_of_ble_eq_true rfl) rfl ?_
      have loop_28 : ∀ (k_28 : Nat) (t : Int) , (n + 1 - t).toNat < k_28 → (1 ≤ t) → (t ≤ n + 1) → (∀ u : Int, 1 ≤ u → u < t → hstep (sF S f) u ≤ 1000000000) → EX G mX10_hardest d 0 0 (MOut m b1 b2 b3 b4 b5 b6 b7 b8 b9 lo hi h vI (oHardest f n S)) 28 [(0, vA m), (1, vI f), (2, vI n), (3, vI t)] [] h 0 0 := by
        intro k_28
        induction k_28 with
        | zero => intro t hm; exact absurd hm (Nat.not_lt_zero _)
        | succ k_28 ih_28 =>
          intro t hm_28 ht1 htn hw
          refine x_iload_n 3 dX10_hardest_28 rfl rfl ?_
          refine x_iload_n 2 dX10_hardest_29 rfl rfl ?_
          refine x_icmp_gt 78 dX10_hardest_30 (by decide) (fun c_30 => ?_) (fun c_30 => ?_)
          · have hall : ∀ u : Int, 1 ≤ u → u ≤ n → hstep (sF S f) u ≤ 1000000000 := fun u q1 q2 => hw u q1 (by omega)
            refine x_iconst dX10_hardest_78 (okI_c rfl) ?_
            refine x_istore_n (L' := [(3, vI 1), (0, vA m), (1, vI f), (2, vI n)]) dX10_hardest_79 rfl (Nat.le_of_ble_eq_true rfl) rfl ?_
            have loop_80 : ∀ (k_80 : Nat) (t : Int) (ci : Nat → Int), (n + 1 - t).toNat < k_80 → (1 ≤ t) → (t ≤ n + 1) → (∀ k : Int, 0 ≤ k → k + 1 < t → ci k.toNat = (fun k : Nat => hstep (sF S f) (k + 1)) k.toNat) → EX G mX10_hardest d 0 0 (MOut m b1 b2 b3 b4 b5 b6 b7 b8 b9 lo hi h vI (oHardest f n S)) 80 [(0, vA m), (1, vI f), (2, vI n), (3, vI t)] [] (hset h b7 (eJ 60 ci)) 0 0 := by
              intro k_80
              induction k_80 with
              | zero => intro t ci hm; exact absurd hm (Nat.not_lt_zero _)
              | succ k_80 ih_80 =>
                intro t ci hm_80 ht1 htn hy
                refine x_iload_n 3 dX10_hardest_80 rfl rfl ?_
                refine x_iload_n 2 dX10_hardest_81 rfl rfl ?_
                refine x_icmp_gt 125 dX10_hardest_82 (by decide) (fun c_82 => ?_) (fun c_82 => ?_)
                · refine x_aload_n 0 dX10_hardest_125 rfl rfl ?_
                  refine x_iload_n 2 dX10_hardest_126 rfl rfl ?_
                  refine x_put 10 dX10_hardest_127 pu_X10_147 ((hset_ne _ _ (by omega)).trans hm) rfl rfl (Nat.le_of_ble_eq_true rfl) ?_
                  refine x_aload_n 0 dX10_hardest_130 rfl rfl ?_
                  refine x_iload_n 2 dX10_hardest_131 rfl rfl ?_
                  refine x_callV [vI n] dX10_hardest_132 kv_X10_73 rfl rfl (hset_eq _ _ _) (by omega) (Nat.le_of_ble_eq_true rfl) (by omega) (by omega) (k_X10_fine (d := 0) (S := sRun n (fun k : Nat => hstep (sF S f) (k + 1)) S) (h := (hset (hset h b7 (eJ 60 ci)) m (eO 9 [vI ((sCu S)), vA b1, vA b2, vA b3, vA b4, vA b5, vI ((sMu S)), vA b6, vI ((sRn S)), vA b7, vI n, vI ((sSv S)), vA b8, vI ((sLt S)), vA b9]))) (⟨⟨o0, o1, o2, o3, o4, o5, o6, o7, o8, o9, oA⟩, (hset_eq _ _ _), ⟨gT, gD, gC, gK, gA, ((hset_ne _ _ (by omega)).trans ((hset_ne _ _ (by omega)).trans hb1)), ((hset_ne _ _ (by omega)).trans ((hset_ne _ _ (by omega)).trans hb2)), ((hset_ne _ _ (by omega)).trans ((hset_ne _ _ (by omega)).trans hb3)), ((hset_ne _ _ (by omega)).trans ((hset_ne _ _ (by omega)).trans hb4)), ((hset_ne _ _ (by omega)).trans ((hset_ne _ _ (by omega)).trans hb5)), hcu⟩, ⟨fr, ((hset_ne _ _ (by omega)).trans ((hset_ne _ _ (by omega)).trans hb6)), hrw⟩, ⟨ci, ((hset_ne _ _ (by omega)).trans (hset_eq _ _ _)), (fun k q1 q2 => by have q3 : k < n := q2; rw [hy k q1 (by omega)]; rfl)⟩, ⟨g8, ((hset_ne _ _ (by omega)).trans ((hset_ne _ _ (by omega)).trans hb8)), htl⟩, ⟨_, ((hset_ne _ _ (by omega)).trans ((hset_ne _ _ (by omega)).trans hb9))⟩⟩)) (fun r1 h1 q1 => ?_)
                  obtain ⟨rfl, hCz, hFz⟩ := q1
                  exact x_ireturn dX10_hardest_135 rfl (by omega) (by omega) (outM (by rw [oHardest, cond_f (fun z => z.elim (fun y => y p_5) (fun y => y.elim (fun y => by omega) (fun y => y hall)))]; rfl) hCz (MFr.trans (MFr.set (MFr.set MFr.refl (by omega) (by omega)) (by omega) (by omega)) hFz))
                · refine x_aload_n 0 dX10_hardest_85 rfl rfl ?_
                  refine x_get 9 dX10_hardest_86 fl_X10_29 ((hset_ne _ _ (by omega)).trans hm) rfl ?_
                  refine x_iload_n 3 dX10_hardest_89 rfl rfl ?_
                  refine x_iconst dX10_hardest_90 (okI_c rfl) ?_
                  refine x_isub dX10_hardest_91 (by unfold okI; omega) ?_
                  refine x_aload_n 0 dX10_hardest_92 rfl rfl ?_
                  refine x_iload_n 1 dX10_hardest_93 rfl rfl ?_
                  refine x_iload_n 3 dX10_hardest_94 rfl rfl ?_
                  refine x_i2l dX10_hardest_95 ?_
                  refine x_callV [vI f, vJ t] dX10_hardest_96 kv_X10_95 rfl rfl ((hset_ne _ _ (by omega)).trans hm) (by omega) (Nat.le_of_ble_eq_true rfl) (by omega) (by omega) (k_X10_valueR (d := 0) (S := S) ((hset_ne _ _ (by omega)).trans hm) ((hset_ne _ _ (by omega)).trans hb1) ((hset_ne _ _ (by omega)).trans hb2) ((hset_ne _ _ (by omega)).trans hb3) ((hset_ne _ _ (by omega)).trans hb5) p_5.1 (by have := p_5.2; omega) (hcu f p_5.1 p_5.2).1 (hcu f p_5.1 p_5.2).2.1 (hcu f p_5.1 p_5.2).2.2.1 (hcu f p_5.1 p_5.2).2.2.2.2 (s3 f p_5.1 p_5.2) (t := t) (by omega) (by omega)) (after_ret (x_asJ (y := sF S f (t)) rfl ?_))
                  have w1 : 0 ≤ sF S f (t) ∧ sF S f (t) ≤ 4000000000000 := cval_bnd (n := 3000) (s3 f p_5.1 p_5.2) (Int.le_refl _) (t) (by omega) (by omega)
                  refine x_iload_n 3 dX10_hardest_99 rfl rfl ?_
                  refine x_iconst dX10_hardest_100 (okI_c rfl) ?_
                  refine x_icmp_ne 108 dX10_hardest_101 (by decide) (fun c_101 => ?_) (fun c_101 => ?_)
                  · refine x_aload_n 0 dX10_hardest_108 rfl rfl ?_
                    refine x_iload_n 1 dX10_hardest_109 rfl rfl ?_
                    refine x_iload_n 3 dX10_hardest_110 rfl rfl ?_
                    refine x_iconst dX10_hardest_111 (okI_c rfl) ?_
                    refine x_isub dX10_hardest_112 (by unfold okI; omega) ?_
                    refine x_i2l dX10_hardest_113 ?_
                    refine x_callV [vI f, vJ (t - 1)] dX10_hardest_114 kv_X10_95 rfl rfl ((hset_ne _ _ (by omega)).trans hm) (by omega) (Nat.le_of_ble_eq_true rfl) (by omega) (by omega) (k_X10_valueR (d := 0) (S := S) ((hset_ne _ _ (by omega)).trans hm) ((hset_ne _ _ (by omega)).trans hb1) ((hset_ne _ _ (by omega)).trans hb2) ((hset_ne _ _ (by omega)).trans hb3) ((hset_ne _ _ (by omega)).trans hb5) p_5.1 (by have := p_5.2; omega) (hcu f p_5.1 p_5.2).1 (hcu f p_5.1 p_5.2).2.1 (hcu f p_5.1 p_5.2).2.2.1 (hcu f p_5.1 p_5.2).2.2.2.2 (s3 f p_5.1 p_5.2) (t := t - 1) (by omega) (by omega)) (after_ret (x_asJ (y := sF S f (t - 1)) rfl ?_))
                    try have w2 : 0 ≤ sF S f (t - 1) ∧ sF S f (t - 1) ≤ 4000000000000 := cval_bnd (n := 3000) (s3 f p_5.1 p_5.2) (Int.le_refl _) (t - 1) (by omega) (by omega)
                    refine x_lsub dX10_hardest_117 (by unfold okJ; omega) ?_
                    refine x_nmJ (fun w e_w => ?_)
                    refine x_lastore dX10_hardest_118 (hset_eq _ _ _) (by omega) (by omega) ?_
                    refine x_iinc 3 (L' := [(3, vI (t + 1)), (0, vA m), (1, vI f), (2, vI n)]) dX10_hardest_119 rfl (by unfold okI; omega) (Nat.le_of_ble_eq_true rfl) rfl ?_
                    refine x_goto 80 dX10_hardest_122 (by decide) ?_
                    have e_w2 : w = hstep (sF S f) t := by first | (rw [hstep_0 c_100, e_w]) | (rw [hstep_1 c_100, e_w]) | (rw [hstep_0 c_101, e_w]) | (rw [hstep_1 c_101, e_w])
                    exact EX.pick [1, 2, 3, 0] rfl (x_ash (hset_hset _ _ _ _) (ih_80 (t + 1) (va_up ci (t - 1).toNat w) (by omega) (by omega) (by omega) (fun k q1 q2 => by by_cases q : k = t - 1; subst q; rw [va_up_self, e_w2]; show hstep (sF S f) t = hstep (sF S f) ((((t - 1).toNat : Nat) : Int) + 1); rw [show (((t - 1).toNat : Nat) : Int) + 1 = t by omega]; rw [va_up_ne _ _ (by omega)]; exact hy k q1 (by omega))))
                  · refine x_lconst (x := 0) dX10_hardest_104 (okJ_c rfl) rfl ?_
                    refine x_goto 117 dX10_hardest_105 (by decide) ?_
                    try have w2 : 0 ≤ sF S f (t - 1) ∧ sF S f (t - 1) ≤ 4000000000000 := cval_bnd (n := 3000) (s3 f p_5.1 p_5.2) (Int.le_refl _) (t - 1) (by omega) (by omega)
                    refine x_lsub dX10_hardest_117 (by unfold okJ; omega) ?_
                    refine x_nmJ (fun w e_w => ?_)
                    refine x_lastore dX10_hardest_118 (hset_eq _ _ _) (by omega) (by omega) ?_
                    refine x_iinc 3 (L' := [(3, vI (t + 1)), (0, vA m), (1, vI f), (2, vI n)]) dX10_hardest_119 rfl (by unfold okI; omega) (Nat.le_of_ble_eq_true rfl) rfl ?_
                    refine x_goto 80 dX10_hardest_122 (by decide) ?_
                    have e_w2 : w = hstep (sF S f) t := by first | (rw [hstep_0 c_100, e_w]) | (rw [hstep_1 c_100, e_w]) | (rw [hstep_0 c_101, e_w]) | (rw [hstep_1 c_101, e_w])
                    exact EX.pick [1, 2, 3, 0] rfl (x_ash (hset_hset _ _ _ _) (ih_80 (t + 1) (va_up ci (t - 1).toNat w) (by omega) (by omega) (by omega) (fun k q1 q2 => by by_cases q : k = t - 1; subst q; rw [va_up_self, e_w2]; show hstep (sF S f) t = hstep (sF S f) ((((t - 1).toNat : Nat) : Int) + 1); rw [show (((t - 1).toNat : Nat) : Int) + 1 = t by omega]; rw [va_up_ne _ _ (by omega)]; exact hy k q1 (by omega))))
            exact EX.pick [1, 2, 3, 0] rfl (x_ash (hset_self hb7).symm (loop_80 ((n + 1 - (1 : Int)).toNat + 1) 1 sm (Nat.lt_succ_self _) (by omega) (by omega) (fun k q1 q2 => by omega)))
          · refine x_aload_n 0 dX10_hardest_33 rfl rfl ?_
            refine x_iload_n 1 dX10_hardest_34 rfl rfl ?_
            refine x_iload_n 3 dX10_hardest_35 rfl rfl ?_
            refine x_i2l dX10_hardest_36 ?_
            refine x_callV [vI f, vJ t] dX10_hardest_37 kv_X10_95 rfl rfl hm (by omega) (Nat.le_of_ble_eq_true rfl) (by omega) (by omega) (k_X10_value (d := 0) hM hS (f := f) (t := t) p_5 (by omega) (by omega)) (after_ret ?_)
            have w1 : 0 ≤ sF S f (t) ∧ sF S f (t) ≤ 4000000000000 := cval_bnd (n := 3000) (s3 f p_5.1 p_5.2) (Int.le_refl _) (t) (by omega) (by omega)
            refine x_iload_n 3 dX10_hardest_40 rfl rfl ?_
            refine x_iconst dX10_hardest_41 (okI_c rfl) ?_
            refine x_icmp_ne 49 dX10_hardest_42 (by decide) (fun c_42 => ?_) (fun c_42 => ?_)
            · refine x_aload_n 0 dX10_hardest_49 rfl rfl ?_
              refine x_iload_n 1 dX10_hardest_50 rfl rfl ?_
              refine x_iload_n 3 dX10_hardest_51 rfl rfl ?_
              refine x_iconst dX10_hardest_52 (okI_c rfl) ?_
              refine x_isub dX10_hardest_53 (by unfold okI; omega) ?_
              refine x_i2l dX10_hardest_54 ?_
              refine x_callV [vI f, vJ (t - 1)] dX10_hardest_55 kv_X10_95 rfl rfl hm (by omega) (Nat.le_of_ble_eq_true rfl) (by omega) (by omega) (k_X10_value (d := 0) hM hS (f := f) (t := t - 1) p_5 (by omega) (by omega)) (after_ret ?_)
              try have w2 : 0 ≤ sF S f (t - 1) ∧ sF S f (t - 1) ≤ 4000000000000 := cval_bnd (n := 3000) (s3 f p_5.1 p_5.2) (Int.le_refl _) (t - 1) (by omega) (by omega)
              refine x_lsub dX10_hardest_58 (by unfold okJ; omega) ?_
              refine x_nmJ (fun w e_w => ?_)
              refine x_ldc2 (n := 1000000000) dX10_hardest_59 (okJ_c rfl) kc_X10_62 ?_
              have e_w : w = hstep (sF S f) t := by first | (rw [hstep_0 c_42, e_w]) | (rw [hstep_1 c_42, e_w])
              refine x_lc_le 72 dX10_hardest_62 dX10_hardest_63 (by decide) (fun c_62 => ?_) (fun c_62 => ?_)
              · refine x_iinc 3 (L' := [(3, vI (t + 1)), (0, vA m), (1, vI f), (2, vI n)]) dX10_hardest_72 rfl (by unfold okI; omega) (Nat.le_of_ble_eq_true rfl) rfl ?_
                refine x_goto 28 dX10_hardest_75 (by decide) ?_
                exact EX.pick [1, 2, 3, 0] rfl (ih_28 (t + 1)  (by omega) (by omega) (by omega) (fun u q1 q2 => by by_cases q : u = t; subst q; omega; exact hw u q1 (by omega)))
              · refine x_aload_n 0 dX10_hardest_66 rfl rfl ?_
                refine x_iconst dX10_hardest_67 (okI_c rfl) ?_
                refine x_callV [vI ((-1))] dX10_hardest_68 kv_X10_58 rfl rfl hm (by omega) (Nat.le_of_ble_eq_true rfl) (by omega) (by omega) (k_X10_refuse (d := 0) (S := S)  (hM)) (fun r1 h1 q1 => ?_)
                obtain ⟨rfl, hCz, hFz⟩ := q1
                exact x_ireturn dX10_hardest_71 rfl (by omega) (by omega) (outM (by rw [oHardest, cond_t (Or.inr (Or.inr (fun z => by have := z t ht1 (by omega); rw [← e_w] at this; omega)))]; rfl) hCz (MFr.trans MFr.refl hFz))
            · refine x_lconst (x := 0) dX10_hardest_45 (okJ_c rfl) rfl ?_
              refine x_goto 58 dX10_hardest_46 (by decide) ?_
              try have w2 : 0 ≤ sF S f (t - 1) ∧ sF S f (t - 1) ≤ 4000000000000 := cval_bnd (n := 3000) (s3 f p_5.1 p_5.2) (Int.le_refl _) (t - 1) (by omega) (by omega)
              refine x_lsub dX10_hardest_58 (by unfold okJ; omega) ?_
              refine x_nmJ (fun w e_w => ?_)
              refine x_ldc2 (n := 1000000000) dX10_hardest_59 (okJ_c rfl) kc_X10_62 ?_
              have e_w : w = hstep (sF S f) t := by first | (rw [hstep_0 c_42, e_w]) | (rw [hstep_1 c_42, e_w])
              refine x_lc_le 72 dX10_hardest_62 dX10_hardest_63 (by decide) (fun c_62 => ?_) (fun c_62 => ?_)
              · refine x_iinc 3 (L' := [(3, vI (t + 1)), (0, vA m), (1, vI f), (2, vI n)]) dX10_hardest_72 rfl (by unfold okI; omega) (Nat.le_of_ble_eq_true rfl) rfl ?_
                refine x_goto 28 dX10_hardest_75 (by decide) ?_
                exact EX.pick [1, 2, 3, 0] rfl (ih_28 (t + 1)  (by omega) (by omega) (by omega) (fun u q1 q2 => by by_cases q : u = t; subst q; omega; exact hw u q1 (by omega)))
              · refine x_aload_n 0 dX10_hardest_66 rfl rfl ?_
                refine x_iconst dX10_hardest_67 (okI_c rfl) ?_
                refine x_callV [vI ((-1))] dX10_hardest_68 kv_X10_58 rfl rfl hm (by omega) (Nat.le_of_ble_eq_true rfl) (by omega) (by omega) (k_X10_refuse (d := 0) (S := S)  (hM)) (fun r1 h1 q1 => ?_)
                obtain ⟨rfl, hCz, hFz⟩ := q1
                exact x_ireturn dX10_hardest_71 rfl (by omega) (by omega) (outM (by rw [oHardest, cond_t (Or.inr (Or.inr (fun z => by have := z t ht1 (by omega); rw [← e_w] at this; omega)))]; rfl) hCz (MFr.trans MFr.refl hFz))
      exact EX.pick [1, 2, 3, 0] rfl (loop_28 ((n + 1 - (1 : Int)).toNat + 1) 1  (Nat.lt_succ_self _) (by omega) (by omega) (fun u q1 q2 => by omega))
    · have p_17 := b2i_eq c_17
      refine x_aload_n 0 dX10_hardest_20 rfl rfl ?_
      refine x_iconst dX10_hardest_21 (okI_c rfl) ?_
      refine x_callV [vI ((-1))] dX10_hardest_22 kv_X10_58 rfl rfl hm (by omega) (Nat.le_of_ble_eq_true rfl) (by omega) (by omega) (k_X10_refuse (d := 0) (S := S)  (hM)) (fun r1 h1 q1 => ?_)
      obtain ⟨rfl, hCz, hFz⟩ := q1
      exact x_ireturn dX10_hardest_25 rfl (by omega) (by omega) (outM (by rw [oHardest, cond_t (by first | exact Or.inl p_5 | exact Or.inr (Or.inl (by omega)))]; rfl) hCz (MFr.trans MFr.refl hFz))
set_option maxRecDepth 100000 in
set_option maxHeartbeats 4000000 in
theorem k_X10_draw {G : aG} {d : Nat} (hd : 5 ≤ d) {m b1 b2 b3 b4 b5 b6 b7 b8 b9 lo hi : Nat} {S : aS} {nc : Nat} {h : aH} (hM : MRel m b1 b2 b3 b4 b5 b6 b7 b8 b9 lo hi S h) (hS : SOk nc S) {n : Int} {z : Int} {mo : Int} : MC G mX10_draw d 0 0 [vA m, vI n, vI z, vI mo] h (MOut m b1 b2 b3 b4 b5 b6 b7 b8 b9 lo hi h vI (oDraw n z mo S)) := by
  obtain ⟨⟨o0, o1, o2, o3, o4, o5, o6, o7, o8, o9, oA⟩, hm, ⟨gT, gD, gC, gK, gA, hb1, hb2, hb3, hb4, hb5, hcu⟩, ⟨fr, hb6, hrw⟩, ⟨sm, hb7, hsm⟩, ⟨g8, hb8, htl⟩, ⟨gw, hb9⟩⟩ := id hM
  obtain ⟨⟨s1, s2⟩, s3, ⟨s4, s5⟩, ⟨s6, s7, s8⟩, s9, ⟨s10, s11⟩, s12⟩ := id hS
  refine MC.of (by decide) (Nat.le_of_ble_eq_true rfl) (fun ok okh => ?_)
  show EX G mX10_draw d 0 0 _ 0 [(0, vA m), (1, vI n), (2, vI z), (3, vI mo)] [] h 0 0
  have okz : okI z := ok (vI z) (by simp)
  refine x_iload_n 1 dX10_draw_0 rfl rfl ?_
  refine x_i2l dX10_draw_1 ?_
  refine x_lconst (x := 1) dX10_draw_2 (okJ_c rfl) rfl ?_
  refine x_ldc2 (n := 300) dX10_draw_3 (okJ_c rfl) kc_X10_79 ?_
  refine x_callS [vJ n, vJ 1, vJ 300] dX10_draw_6 ks_X10_50 rfl rfl (by omega) (Nat.le_of_ble_eq_true rfl) (by omega) (by omega) (k_X10_in (d := 0)) (after_ret ?_)
  refine x_if_eq 24 dX10_draw_9 (by decide) (fun c_9 => ?_) (fun c_9 => ?_)
  · have p_9 := b2i_eq c_9
    refine x_aload_n 0 dX10_draw_24 rfl rfl ?_
    refine x_iconst dX10_draw_25 (okI_c rfl) ?_
    refine x_callV [vI ((-1))] dX10_draw_26 kv_X10_58 rfl rfl hm (by omega) (Nat.le_of_ble_eq_true rfl) (by omega) (by omega) (k_X10_refuse (d := 0) (S := S)  (hM)) (fun r1 h1 q1 => ?_)
    obtain ⟨rfl, hCz, hFz⟩ := q1
    exact x_ireturn dX10_draw_29 rfl (by omega) (by omega) (outM (by rw [oDraw, if_pos (by omega)]; rfl) hCz (MFr.trans MFr.refl hFz))
  · have p_9 := b2i_ne c_9
    refine x_iload_n 3 dX10_draw_12 rfl rfl ?_
    refine x_i2l dX10_draw_13 ?_
    refine x_lconst (x := 0) dX10_draw_14 (okJ_c rfl) rfl ?_
    refine x_ldc2 (n := 1000000) dX10_draw_15 (okJ_c rfl) kc_X10_81 ?_
    refine x_callS [vJ mo, vJ 0, vJ 1000000] dX10_draw_18 ks_X10_50 rfl rfl (by omega) (Nat.le_of_ble_eq_true rfl) (by omega) (by omega) (k_X10_in (d := 0)) (after_ret ?_)
    refine x_if_ne 30 dX10_draw_21 (by decide) (fun c_21 => ?_) (fun c_21 => ?_)
    · have p_21 := b2i_ne c_21
      refine x_aload_n 0 dX10_draw_30 rfl rfl ?_
      refine x_get 8 dX10_draw_31 fl_X10_76 hm rfl ?_
      refine x_iload_n 1 dX10_draw_34 rfl rfl ?_
      refine x_iadd dX10_draw_35 (by unfold okI; omega) ?_
      refine x_sipush dX10_draw_36 (okI_c rfl) (by decide +kernel) ?_
      refine x_icmp_le 49 dX10_draw_39 (by decide) (fun c_39 => ?_) (fun c_39 => ?_)
      · refine x_iload_n 2 dX10_draw_49 rfl rfl ?_
        refine x_istore (L' := [(4, vI z), (0, vA m), (1, vI n), (2, vI z), (3, vI mo)]) dX10_draw_50 (Nat.le_of_ble_eq_true rfl) rfl ?_
        refine x_iconst dX10_draw_52 (okI_c rfl) ?_
        refine x_istore (L' := [(5, vI 0), (4, vI z), (0, vA m), (1, vI n), (2, vI z), (3, vI mo)]) dX10_draw_53 (Nat.le_of_ble_eq_true rfl) rfl ?_
        have loop_55 : ∀ (k_55 : Nat) (zz : Int) (i : Int) (fi : Nat → Int) (wi : Nat → Int), (n - i).toNat < k_55 → (0 ≤ i) → (i ≤ n) → (-2147483648 ≤ zz) → (zz ≤ 2147483647) → (∀ t : Int, 0 ≤ t → t < sRn S + i → 0 ≤ wi t.toNat ∧ wi t.toNat ≤ 1000000000000 + t * 1000000) → (∀ t : Int, 0 ≤ t → t < sRn S + i → fi t.toNat = wi t.toNat) → (drw mo (n - i).toNat zz (sRn S + i) wi = drw mo n.toNat z (sRn S) (sRw S)) → EX G mX10_draw d 0 0 (MOut m b1 b2 b3 b4 b5 b6 b7 b8 b9 lo hi h vI (oDraw n z mo S)) 55 [(0, vA m), (1, vI n), (3, vI mo), (4, vI zz), (5, vI i)] [] (hset (hset h b6 (eJ 300 fi)) m (eO 9 [vI ((sCu S)), vA b1, vA b2, vA b3, vA b4, vA b5, vI ((sMu S)), vA b6, vI ((sRn S + i)), vA b7, vI ((sSn S)), vI ((sSv S)), vA b8, vI ((sLt S)), vA b9])) 0 0 := by
          intro k_55
          induction k_55 with
          | zero => intro zz i fi wi hm; exact absurd hm (Nat.not_lt_zero _)
          | succ k_55 ih_55 =>
            intro zz i fi wi hm_55 hi0 hin hz0 hz1 hbd hag hdr
            refine x_iload 4 dX10_draw_55 rfl ?_
            refine x_iload_n 1 dX10_draw_57 rfl rfl ?_
            refine x_icmp_ge 133 dX10_draw_58 (by decide) (fun c_58 => ?_) (fun c_58 => ?_)
            · have hfin : (sRn S + i, wi) = drw mo n.toNat z (sRn S) (sRw S) := by rw [← hdr, show (n - i).toNat = 0 by omega]; rfl
              refine x_aload_n 0 dX10_draw_133 rfl rfl ?_
              refine x_aload_n 0 dX10_draw_134 rfl rfl ?_
              refine x_get 8 dX10_draw_135 fl_X10_76 (hset_eq _ _ _) rfl ?_
              refine x_callV [vI ((sRn S + i))] dX10_draw_138 kv_X10_73 rfl rfl (hset_eq _ _ _) (by omega) (Nat.le_of_ble_eq_true rfl) (by omega) (by omega) (k_X10_fine (d := 0) (S := sRow (sRn S + i) wi S) (h := (hset (hset h b6 (eJ 300 fi)) m (eO 9 [vI ((sCu S)), vA b1, vA b2, vA b3, vA b4, vA b5, vI ((sMu S)), vA b6, vI ((sRn S + i)), vA b7, vI ((sSn S)), vI ((sSv S)), vA b8, vI ((sLt S)), vA b9]))) (⟨⟨o0, o1, o2, o3, o4, o5, o6, o7, o8, o9, oA⟩, (hset_eq _ _ _), ⟨gT, gD, gC, gK, gA, ((hset_ne _ _ (by omega)).trans ((hset_ne _ _ (by omega)).trans hb1)), ((hset_ne _ _ (by omega)).trans ((hset_ne _ _ (by omega)).trans hb2)), ((hset_ne _ _ (by omega)).trans ((hset_ne _ _ (by omega)).trans hb3)), ((hset_ne _ _ (by omega)).trans ((hset_ne _ _ (by omega)).trans hb4)), ((hset_ne _ _ (by omega)).trans ((hset_ne _ _ (by omega)).trans hb5)), hcu⟩, ⟨fi, ((hset_ne _ _ (by omega)).trans (hset_eq _ _ _)), hag⟩, ⟨sm, ((hset_ne _ _ (by omega)).trans ((hset_ne _ _ (by omega)).trans hb7)), hsm⟩, ⟨g8, ((hset_ne _ _ (by omega)).trans ((hset_ne _ _ (by omega)).trans hb8)), htl⟩, ⟨_, ((hset_ne _ _ (by omega)).trans ((hset_ne _ _ (by omega)).trans hb9))⟩⟩)) (fun r1 h1 q1 => ?_)
              obtain ⟨rfl, hCz, hFz⟩ := q1
              exact x_ireturn dX10_draw_141 rfl (by omega) (by omega) (outM (by rw [oDraw, if_neg (by omega), if_neg (by omega), ← hfin, show sRn S + n = sRn S + i by omega]; rfl) hCz (MFr.trans (MFr.set (MFr.set MFr.refl (by omega) (by omega)) (by omega) (by omega)) hFz))
            · refine x_iload 3 dX10_draw_61 rfl ?_
              refine x_ldc (n := 1103515245) dX10_draw_63 (okI_c rfl) kc_X10_83 ?_
              refine x_imulW dX10_draw_65 (by unfold okI; omega) (wrI _) ?_
              refine x_nmI (fun za e_za => ?_)
              refine x_sipush dX10_draw_66 (okI_c rfl) (by decide +kernel) ?_
              refine x_iaddW dX10_draw_69 (by unfold okI; omega) (wrI _) ?_
              refine x_nmI (fun zb e_zb => ?_)
              refine x_ldc (n := 2147483647) dX10_draw_70 (okI_c rfl) kc_X10_84 ?_
              refine x_iand (v := zb % 2147483648) dX10_draw_72 (by unfold okI; omega) (iand31 _) ?_
              refine x_nmI (fun z2 e_z2 => ?_)
              refine x_istore (L' := [(4, vI z2), (0, vA m), (1, vI n), (3, vI mo), (5, vI i)]) dX10_draw_73 (Nat.le_of_ble_eq_true rfl) rfl ?_
              have hz2 : z2 = (zz * 1103515245 + 12345) % 2147483648 := by omega
              refine x_aload_n 1 dX10_draw_75 rfl rfl ?_
              refine x_get 7 dX10_draw_76 fl_X10_26 (hset_eq _ _ _) rfl ?_
              refine x_aload_n 1 dX10_draw_79 rfl rfl ?_
              refine x_get 8 dX10_draw_80 fl_X10_76 (hset_eq _ _ _) rfl ?_
              refine x_aload_n 1 dX10_draw_83 rfl rfl ?_
              refine x_get 8 dX10_draw_84 fl_X10_76 (hset_eq _ _ _) rfl ?_
              refine x_if_ne 94 dX10_draw_87 (by decide) (fun c_87 => ?_) (fun c_87 => ?_)
              · refine x_aload_n 1 dX10_draw_94 rfl rfl ?_
                refine x_get 7 dX10_draw_95 fl_X10_26 (hset_eq _ _ _) rfl ?_
                refine x_aload_n 1 dX10_draw_98 rfl rfl ?_
                refine x_get 8 dX10_draw_99 fl_X10_76 (hset_eq _ _ _) rfl ?_
                refine x_iconst dX10_draw_102 (okI_c rfl) ?_
                refine x_isub dX10_draw_103 (by unfold okI; omega) ?_
                refine x_laload dX10_draw_104 ((hset_ne _ _ (by omega)).trans (hset_eq _ _ _)) (by omega) (by omega) ?_
                refine x_asJ (y := (wi (sRn S + i - 1).toNat)) (hag (sRn S + i - 1) (by omega) (by omega)) ?_
                try have hw3 := hbd (sRn S + i - 1) (by omega) (by omega)
                refine x_iload 0 dX10_draw_105 rfl ?_
                refine x_bipush dX10_draw_107 (okI_c rfl) (by decide +kernel) ?_
                refine x_ishr (v := z2 / 256) dX10_draw_109 (by unfold okI; omega) (ishr8 (by omega) (by omega)) ?_
                refine x_iload_n 3 dX10_draw_110 rfl rfl ?_
                refine x_iconst dX10_draw_111 (okI_c rfl) ?_
                refine x_iadd dX10_draw_112 (by unfold okI; omega) ?_
                refine x_irem dX10_draw_113 (by omega) (by omega) ?_
                refine x_i2l dX10_draw_114 ?_
                have hu := modB (x := z2 / 256) (y := mo + 1) (by omega)
                refine x_nmJ (fun u e_u => ?_)
                refine x_ladd dX10_draw_115 (by unfold okJ; omega) ?_
                rw [← e_u] at hu
                refine x_nmJ (fun hv2 e_hv2 => ?_)
                refine x_lastore dX10_draw_116 ((hset_ne _ _ (by omega)).trans (hset_eq _ _ _)) (by omega) (by omega) ?_
                refine x_aload_n 1 dX10_draw_117 rfl rfl ?_
                refine x_dup dX10_draw_118 rfl ?_
                refine x_get 8 dX10_draw_119 fl_X10_76 ((hset_ne _ _ (by omega)).trans (hset_eq _ _ _)) rfl ?_
                refine x_iconst dX10_draw_122 (okI_c rfl) ?_
                refine x_iadd dX10_draw_123 (by unfold okI; omega) ?_
                refine x_put 8 dX10_draw_124 pu_X10_76 ((hset_ne _ _ (by omega)).trans (hset_eq _ _ _)) rfl rfl (Nat.le_of_ble_eq_true rfl) ?_
                refine x_iinc 4 (L' := [(5, vI (i + 1)), (4, vI z2), (0, vA m), (1, vI n), (3, vI mo)]) dX10_draw_127 rfl (by unfold okI; omega) (Nat.le_of_ble_eq_true rfl) rfl ?_
                refine x_goto 55 dX10_draw_130 (by decide) ?_
                exact EX.pick [2, 3, 4, 1, 0] rfl (x_ash (by rw [hset4 _ _ _ _ _ (by omega), show sRn S + i + 1 = sRn S + (i + 1) by omega]; rfl) (ih_55 z2 (i + 1) (va_up fi (sRn S + i).toNat hv2) (va_up wi (sRn S + i).toNat hv2) (by omega) (by omega) (by omega) (by omega) (by omega) (fun t q1 q2 => by by_cases q : t = sRn S + i; subst q; rw [va_up_self]; omega; rw [va_up_ne _ _ (by omega)]; exact hbd t q1 (by omega)) (fun t q1 q2 => by by_cases q : t = sRn S + i; subst q; rw [va_up_self, va_up_self]; rw [va_up_ne _ _ (by omega), va_up_ne _ _ (by omega)]; exact hag t q1 (by omega)) (by rw [← hdr, show (n - i).toNat = (n - (i + 1)).toNat + 1 by omega, drw, ← hz2, ← e_u]; first | (rw [if_pos c_87, ← e_hv2, show sRn S + i + 1 = sRn S + (i + 1) by omega]) | (rw [if_neg c_87, ← e_hv2, show sRn S + i + 1 = sRn S + (i + 1) by omega]))))
              · refine x_lconst (x := 0) dX10_draw_90 (okJ_c rfl) rfl ?_
                refine x_goto 105 dX10_draw_91 (by decide) ?_
                try have hw3 := hbd (sRn S + i - 1) (by omega) (by omega)
                refine x_iload 0 dX10_draw_105 rfl ?_
                refine x_bipush dX10_draw_107 (okI_c rfl) (by decide +kernel) ?_
                refine x_ishr (v := z2 / 256) dX10_draw_109 (by unfold okI; omega) (ishr8 (by omega) (by omega)) ?_
                refine x_iload_n 3 dX10_draw_110 rfl rfl ?_
                refine x_iconst dX10_draw_111 (okI_c rfl) ?_
                refine x_iadd dX10_draw_112 (by unfold okI; omega) ?_
                refine x_irem dX10_draw_113 (by omega) (by omega) ?_
                refine x_i2l dX10_draw_114 ?_
                have hu := modB (x := z2 / 256) (y := mo + 1) (by omega)
                refine x_nmJ (fun u e_u => ?_)
                refine x_ladd dX10_draw_115 (by unfold okJ; omega) ?_
                rw [← e_u] at hu
                refine x_nmJ (fun hv2 e_hv2 => ?_)
                refine x_lastore dX10_draw_116 ((hset_ne _ _ (by omega)).trans (hset_eq _ _ _)) (by omega) (by omega) ?_
                refine x_aload_n 1 dX10_draw_117 rfl rfl ?_
                refine x_dup dX10_draw_118 rfl ?_
                refine x_get 8 dX10_draw_119 fl_X10_76 ((hset_ne _ _ (by omega)).trans (hset_eq _ _ _)) rfl ?_
                refine x_iconst dX10_draw_122 (okI_c rfl) ?_
                refine x_iadd dX10_draw_123 (by unfold okI; omega) ?_
                refine x_put 8 dX10_draw_124 pu_X10_76 ((hset_ne _ _ (by omega)).trans (hset_eq _ _ _)) rfl rfl (Nat.le_of_ble_eq_true rfl) ?_
                refine x_iinc 4 (L' := [(5, vI (i + 1)), (4, vI z2), (0, vA m), (1, vI n), (3, vI mo)]) dX10_draw_127 rfl (by unfold okI; omega) (Nat.le_of_ble_eq_true rfl) rfl ?_
                refine x_goto 55 dX10_draw_130 (by decide) ?_
                exact EX.pick [2, 3, 4, 1, 0] rfl (x_ash (by rw [hset4 _ _ _ _ _ (by omega), show sRn S + i + 1 = sRn S + (i + 1) by omega]; rfl) (ih_55 z2 (i + 1) (va_up fi (sRn S + i).toNat hv2) (va_up wi (sRn S + i).toNat hv2) (by omega) (by omega) (by omega) (by omega) (by omega) (fun t q1 q2 => by by_cases q : t = sRn S + i; subst q; rw [va_up_self]; omega; rw [va_up_ne _ _ (by omega)]; exact hbd t q1 (by omega)) (fun t q1 q2 => by by_cases q : t = sRn S + i; subst q; rw [va_up_self, va_up_self]; rw [va_up_ne _ _ (by omega), va_up_ne _ _ (by omega)]; exact hag t q1 (by omega)) (by rw [← hdr, show (n - i).toNat = (n - (i + 1)).toNat + 1 by omega, drw, ← hz2, ← e_u]; first | (rw [if_pos c_87, ← e_hv2, show sRn S + i + 1 = sRn S + (i + 1) by omega]) | (rw [if_neg c_87, ← e_hv2, show sRn S + i + 1 = sRn S + (i + 1) by omega]))))
        exact EX.pick [2, 3, 5, 1, 0] rfl (x_ash (show h = (hset (hset h b6 (eJ 300 fr)) m (eO 9 [vI ((sCu S)), vA b1, vA b2, vA b3, vA b4, vA b5, vI ((sMu S)), vA b6, vI ((sRn S + 0)), vA b7, vI ((sSn S)), vI ((sSv S)), vA b8, vI ((sLt S)), vA b9])) from by rw [Int.add_zero, hset_self hb6, hset_self hm]) (loop_55 ((n - (0 : Int)).toNat + 1) z 0 fr (sRw S) (Nat.lt_succ_self _) (by omega) (by omega) (by unfold okI at okz; omega) (by unfold okI at okz; omega) (fun t q1 q2 => s8 t q1 (by omega)) (fun t q1 q2 => hrw t q1 (by omega)) (by rw [Int.sub_zero, Int.add_zero])))
      · refine x_aload_n 0 dX10_draw_42 rfl rfl ?_
        refine x_bipush dX10_draw_43 (okI_c rfl) (by decide +kernel) ?_
        refine x_callV [vI ((-3))] dX10_draw_45 kv_X10_58 rfl rfl hm (by omega) (Nat.le_of_ble_eq_true rfl) (by omega) (by omega) (k_X10_refuse (d := 0) (S := S)  (hM)) (fun r1 h1 q1 => ?_)
        obtain ⟨rfl, hCz, hFz⟩ := q1
        exact x_ireturn dX10_draw_48 rfl (by omega) (by omega) (outM (by rw [oDraw, if_neg (by omega), if_pos (by omega)]; rfl) hCz (MFr.trans MFr.refl hFz))
    · have p_21 := b2i_eq c_21
      refine x_aload_n 0 dX10_draw_24 rfl rfl ?_
      refine x_iconst dX10_draw_25 (okI_c rfl) ?_
      refine x_callV [vI ((-1))] dX10_draw_26 kv_X10_58 rfl rfl hm (by omega) (Nat.le_of_ble_eq_true rfl) (by omega) (by omega) (k_X10_refuse (d := 0) (S := S)  (hM)) (fun r1 h1 q1 => ?_)
      obtain ⟨rfl, hCz, hFz⟩ := q1
      exact x_ireturn dX10_draw_29 rfl (by omega) (by omega) (outM (by rw [oDraw, if_pos (by omega)]; rfl) hCz (MFr.trans MFr.refl hFz))
