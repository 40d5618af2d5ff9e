/-! ===== FlowCurvesModel: closed, the span of an amount ===== -/
def ClU (F : Int → Int) (A : Nat → Int) (n s t : Int) : Prop := A 0 = 0 ∧ ∀ u v : Int, 1 ≤ u → u ≤ v → v < n → (u < s ∨ (u = s ∧ v < t)) → F (u + v) ≤ A u.toNat + A v.toNat
theorem ClU.next {F : Int → Int} {A : Nat → Int} {n s t : Int} (h : ClU F A n s t) (ht : n ≤ t) : ClU F A n (s + 1) (s + 1) := ⟨h.1, fun u v q1 q2 q3 q4 => h.2 u v q1 q2 q3 (by omega)⟩
theorem ClU.back {F : Int → Int} {A : Nat → Int} {n s t : Int} (h : ClU F A n (s + 1) (s + 1)) : ClU F A n s t := ⟨h.1, fun u v q1 q2 q3 q4 => h.2 u v q1 q2 q3 (by omega)⟩
theorem ClU.one {F : Int → Int} {A : Nat → Int} {n s t : Int} (h : ClU F A n s t) (k : F (s + t) ≤ A s.toNat + A t.toNat) : ClU F A n s (t + 1) := ⟨h.1, fun u v q1 q2 q3 q4 => by
  by_cases q : u = s ∧ v = t
  · obtain ⟨rfl, rfl⟩ := q; exact k
  · exact h.2 u v q1 q2 q3 (by omega)⟩
theorem ClU.of1 {F : Int → Int} {A : Nat → Int} {n s t : Int} (h : ClU F A n s (t + 1)) (h1 : 1 ≤ s) (h2 : s ≤ t) (h3 : t < n) : F (s + t) ≤ A s.toNat + A t.toNat := h.2 s t h1 h2 h3 (by omega)
theorem ClU.closed {T D C : Int} {A : Nat → Int} {s : Int} (h : ClU (cval T D C A) A (T + D) s s) (hs : T + D ≤ s) : Closed T D C A := ⟨h.1, fun u v q1 q2 q3 => h.2 u v q1 q2 q3 (by omega)⟩
theorem Closed.clu {T D C : Int} {A : Nat → Int} {s t : Int} (h : Closed T D C A) : ClU (cval T D C A) A (T + D) s t := ⟨h.1, fun u v q1 q2 q3 _ => h.2 u v q1 q2 q3⟩
set_option maxRecDepth 100000 in
set_option maxHeartbeats 4000000 in
theorem k_X10_isClosed {G : aG} {d : Nat} (hd : 1 ≤ d) {m b1 b2 b3 b4 b5 b6 b7 b8 b9 lo hi : Nat} {S : aS} {nc : Nat} {h : aH} (hM : MRel m b1 b2 b3 b4 b5 b6 b7 b8 b9 lo hi S h) (hS : SOk nc S) {f : Int} (hf : isC S f) : MC G mX10_isClosed d 0 0 [vA m, vI f] h (Ret (vI (b2i (Closed (sT S f) (sD S f) (sC S f) (sA S f)))) h) := by
  obtain ⟨⟨o0, o1, o2, o3, o4, o5, o6, o7, o8, o9, oA⟩, hm, ⟨gT, gD, gC, gK, gA, hb1, hb2, hb3, hb4, hb5, hcu⟩, ⟨fr, hb6, hrw⟩, ⟨sm, hb7, hsm⟩, ⟨g8, hb8, htl⟩, ⟨gw, hb9⟩⟩ := id hM
  obtain ⟨⟨s1, s2⟩, s3, ⟨s4, s5⟩, ⟨s6, s7, s8⟩, s9, ⟨s10, s11⟩, s12⟩ := id hS
  have hcf := hcu f hf.1 hf.2
  obtain ⟨hT0f, hT2f, hD0f, hD6f, hC0f, hC1f, hAf, hMf, hWf⟩ := id (s3 f hf.1 hf.2)
  have hlf := hf.2
  have hzf := hf.1
  refine MC.of (by decide) (Nat.le_of_ble_eq_true rfl) (fun ok okh => ?_)
  show EX G mX10_isClosed d 0 0 _ 0 [(0, vA m), (1, vI f)] [] h 0 0
  refine x_aload_n 0 dX10_isClosed_0 rfl rfl ?_
  refine x_get 1 dX10_isClosed_1 fl_X10_7 hm rfl ?_
  refine x_iload_n 1 dX10_isClosed_4 rfl rfl ?_
  refine x_iaload dX10_isClosed_5 hb1 (by omega) (by omega) ?_
  refine x_asI (y := (sT S f)) hcf.1 ?_
  refine x_aload_n 0 dX10_isClosed_6 rfl rfl ?_
  refine x_get 2 dX10_isClosed_7 fl_X10_13 hm rfl ?_
  refine x_iload_n 1 dX10_isClosed_10 rfl rfl ?_
  refine x_iaload dX10_isClosed_11 hb2 (by omega) (by omega) ?_
  refine x_asI (y := (sD S f)) hcf.2.1 ?_
  refine x_iadd dX10_isClosed_12 (by unfold okI; omega) ?_
  refine x_nmI (fun n e_n => ?_)
  refine x_istore_n (L' := [(2, vI n), (0, vA m), (1, vI f)]) dX10_isClosed_13 rfl (Nat.le_of_ble_eq_true rfl) rfl ?_
  refine x_aload_n 1 dX10_isClosed_14 rfl rfl ?_
  refine x_get 5 dX10_isClosed_15 fl_X10_23 hm rfl ?_
  refine x_sipush dX10_isClosed_18 (okI_c rfl) (by decide +kernel) ?_
  refine x_iload_n 2 dX10_isClosed_21 rfl rfl ?_
  refine x_imul dX10_isClosed_22 (by unfold okI; omega) ?_
  refine x_laload dX10_isClosed_23 hb5 (by omega) (by omega) ?_
  refine x_asJ (y := (sA S f 0)) (by have := hcf.2.2.2.2 0 (by omega) (by omega); rw [Int.add_zero] at this; exact this) ?_
  refine x_lconst (x := 0) dX10_isClosed_24 (okJ_c rfl) rfl ?_
  refine x_lc_ne 33 dX10_isClosed_25 dX10_isClosed_26 (by decide) (fun c_25 => ?_) (fun c_25 => ?_)
  · refine x_iconst dX10_isClosed_33 (okI_c rfl) ?_
    refine x_istore_n (L' := [(3, vI 0), (2, vI n), (0, vA m), (1, vI f)]) dX10_isClosed_34 rfl (Nat.le_of_ble_eq_true rfl) rfl ?_
    refine x_iconst dX10_isClosed_35 (okI_c rfl) ?_
    refine x_istore (L' := [(4, vI 1), (3, vI 0), (2, vI n), (0, vA m), (1, vI f)]) dX10_isClosed_36 (Nat.le_of_ble_eq_true rfl) rfl ?_
    have loop_38 : ∀ (k_38 : Nat) (ie : Int) (s : Int) , (n - s).toNat < k_38 → (1 ≤ s) → (ie = b2i (ClU (sF S f) (sA S f) (sT S f + sD S f) s s)) → EX G mX10_isClosed d 0 0 (Ret (vI (b2i (Closed (sT S f) (sD S f) (sC S f) (sA S f)))) h) 38 [(0, vA m), (1, vI f), (2, vI n), (3, vI ie), (4, vI s)] [] h 0 0 := by
      intro k_38
      induction k_38 with
      | zero => intro ie s hm; exact absurd hm (Nat.not_lt_zero _)
      | succ k_38 ih_38 =>
        intro ie s hm_38 hs1 hie
        refine x_iload 4 dX10_isClosed_38 rfl ?_
        refine x_iload_n 2 dX10_isClosed_40 rfl rfl ?_
        refine x_icmp_ge 122 dX10_isClosed_41 (by decide) (fun c_41 => ?_) (fun c_41 => ?_)
        · refine x_iload_n 3 dX10_isClosed_122 rfl rfl ?_
          exact x_zreturn dX10_isClosed_123 rfl (by rw [hie]; exact b2i_or _) (by decide) (by decide) (retI (by first | (rw [hie]; exact b2i_congr ⟨fun z => ClU.closed z (by omega), fun z => z.clu⟩) | (rw [c_45]; exact (b2i_f (fun z => (b2i_eq (P := ClU (sF S f) (sA S f) (sT S f + sD S f) s s) (by rw [← hie]; exact c_45)) z.clu)).symm)))
        · refine x_iload_n 3 dX10_isClosed_44 rfl rfl ?_
          refine x_if_eq 122 dX10_isClosed_45 (by decide) (fun c_45 => ?_) (fun c_45 => ?_)
          · refine x_iload_n 3 dX10_isClosed_122 rfl rfl ?_
            exact x_zreturn dX10_isClosed_123 rfl (by rw [hie]; exact b2i_or _) (by decide) (by decide) (retI (by first | (rw [hie]; exact b2i_congr ⟨fun z => ClU.closed z (by omega), fun z => z.clu⟩) | (rw [c_45]; exact (b2i_f (fun z => (b2i_eq (P := ClU (sF S f) (sA S f) (sT S f + sD S f) s s) (by rw [← hie]; exact c_45)) z.clu)).symm)))
          · refine x_iload 4 dX10_isClosed_48 rfl ?_
            refine x_istore (L' := [(5, vI s), (0, vA m), (1, vI f), (2, vI n), (3, vI ie), (4, vI s)]) dX10_isClosed_50 (Nat.le_of_ble_eq_true rfl) rfl ?_
            have loop_52 : ∀ (k_52 : Nat) (ie : Int) (t : Int) , (n - t).toNat < k_52 → (s ≤ t) → (ie = b2i (ClU (sF S f) (sA S f) (sT S f + sD S f) s t)) → EX G mX10_isClosed d 0 0 (Ret (vI (b2i (Closed (sT S f) (sD S f) (sC S f) (sA S f)))) h) 52 [(0, vA m), (1, vI f), (2, vI n), (3, vI ie), (4, vI s), (5, vI t)] [] h 0 0 := by
              intro k_52
              induction k_52 with
              | zero => intro ie t hm; exact absurd hm (Nat.not_lt_zero _)
              | succ k_52 ih_52 =>
                intro ie t hm_52 hst hie
                refine x_iload 5 dX10_isClosed_52 rfl ?_
                refine x_iload_n 2 dX10_isClosed_54 rfl rfl ?_
                refine x_icmp_ge 116 dX10_isClosed_55 (by decide) (fun c_55 => ?_) (fun c_55 => ?_)
                · refine x_iinc 4 (L' := [(4, vI (s + 1)), (0, vA m), (1, vI f), (2, vI n), (3, vI ie), (5, vI t)]) dX10_isClosed_116 rfl (by unfold okI; omega) (Nat.le_of_ble_eq_true rfl) rfl ?_
                  refine x_goto 38 dX10_isClosed_119 (by decide) ?_
                  exact EX.pick [1, 2, 3, 4, 0] rfl (ih_38 ie (s + 1)  (by omega) (by omega) (by first | (rw [hie]; exact b2i_congr ⟨fun z => z.next (by omega), fun z => z.back⟩) | (rw [c_59]; exact (b2i_f (fun z => (b2i_eq (P := ClU (sF S f) (sA S f) (sT S f + sD S f) s t) (by rw [← hie]; exact c_59)) z.back)).symm)))
                · refine x_iload_n 3 dX10_isClosed_58 rfl rfl ?_
                  refine x_if_eq 116 dX10_isClosed_59 (by decide) (fun c_59 => ?_) (fun c_59 => ?_)
                  · refine x_iinc 4 (L' := [(4, vI (s + 1)), (0, vA m), (1, vI f), (2, vI n), (3, vI ie), (5, vI t)]) dX10_isClosed_116 rfl (by unfold okI; omega) (Nat.le_of_ble_eq_true rfl) rfl ?_
                    refine x_goto 38 dX10_isClosed_119 (by decide) ?_
                    exact EX.pick [1, 2, 3, 4, 0] rfl (ih_38 ie (s + 1)  (by omega) (by omega) (by first | (rw [hie]; exact b2i_congr ⟨fun z => z.next (by omega), fun z => z.back⟩) | (rw [c_59]; exact (b2i_f (fun z => (b2i_eq (P := ClU (sF S f) (sA S f) (sT S f + sD S f) s t) (by rw [← hie]; exact c_59)) z.back)).symm)))
                  · have hp : ClU (sF S f) (sA S f) (sT S f + sD S f) s t := b2i_ne (by rw [← hie]; exact c_59)
                    refine x_aload_n 0 dX10_isClosed_62 rfl rfl ?_
                    refine x_iload_n 1 dX10_isClosed_63 rfl rfl ?_
                    refine x_iload 4 dX10_isClosed_64 rfl ?_
                    refine x_iload 5 dX10_isClosed_66 rfl ?_
                    refine x_iadd dX10_isClosed_68 (by unfold okI; omega) ?_
                    refine x_i2l dX10_isClosed_69 ?_
                    refine x_callV [vI f, vJ (s + t)] dX10_isClosed_70 kv_X10_95 rfl rfl hm (by omega) (Nat.le_of_ble_eq_true rfl) (by omega) (by omega) (k_X10_value (d := 0) hM hS (f := f) (t := s + t) hf (by omega) (by omega)) (after_ret ?_)
                    refine x_aload_n 0 dX10_isClosed_73 rfl rfl ?_
                    refine x_get 5 dX10_isClosed_74 fl_X10_23 hm rfl ?_
                    refine x_sipush dX10_isClosed_77 (okI_c rfl) (by decide +kernel) ?_
                    refine x_iload_n 1 dX10_isClosed_80 rfl rfl ?_
                    refine x_imul dX10_isClosed_81 (by unfold okI; omega) ?_
                    refine x_iload 4 dX10_isClosed_82 rfl ?_
                    refine x_iadd dX10_isClosed_84 (by unfold okI; omega) ?_
                    refine x_laload dX10_isClosed_85 hb5 (by omega) (by omega) ?_
                    refine x_asJ (y := (sA S f s.toNat)) (hcf.2.2.2.2 s (by omega) (by omega)) ?_
                    refine x_aload_n 0 dX10_isClosed_86 rfl rfl ?_
                    refine x_get 5 dX10_isClosed_87 fl_X10_23 hm rfl ?_
                    refine x_sipush dX10_isClosed_90 (okI_c rfl) (by decide +kernel) ?_
                    refine x_iload_n 1 dX10_isClosed_93 rfl rfl ?_
                    refine x_imul dX10_isClosed_94 (by unfold okI; omega) ?_
                    refine x_iload 5 dX10_isClosed_95 rfl ?_
                    refine x_iadd dX10_isClosed_97 (by unfold okI; omega) ?_
                    refine x_laload dX10_isClosed_98 hb5 (by omega) (by omega) ?_
                    refine x_asJ (y := (sA S f t.toNat)) (hcf.2.2.2.2 t (by omega) (by omega)) ?_
                    have w1 := hAf s (by omega) (by omega)
                    have w2 := hAf t (by omega) (by omega)
                    refine x_ladd dX10_isClosed_99 (by unfold okJ; omega) ?_
                    refine x_lc_gt 108 dX10_isClosed_100 dX10_isClosed_101 (by decide) (fun c_100 => ?_) (fun c_100 => ?_)
                    · refine x_iconst dX10_isClosed_108 (okI_c rfl) ?_
                      refine x_istore_n (L' := [(3, vI 0), (0, vA m), (1, vI f), (2, vI n), (4, vI s), (5, vI t)]) dX10_isClosed_109 rfl (Nat.le_of_ble_eq_true rfl) rfl ?_
                      refine x_iinc 5 (L' := [(5, vI (t + 1)), (3, vI 0), (0, vA m), (1, vI f), (2, vI n), (4, vI s)]) dX10_isClosed_110 rfl (by unfold okI; omega) (Nat.le_of_ble_eq_true rfl) rfl ?_
                      refine x_goto 52 dX10_isClosed_113 (by decide) ?_
                      exact EX.pick [2, 3, 4, 1, 5, 0] rfl (ih_52 0 (t + 1)  (by omega) (by omega) (b2i_f (fun z => by have := z.of1 (by omega) (by omega) (by omega); omega)).symm)
                    · refine x_iconst dX10_isClosed_104 (okI_c rfl) ?_
                      refine x_goto 109 dX10_isClosed_105 (by decide) ?_
                      refine x_istore_n (L' := [(3, vI 1), (0, vA m), (1, vI f), (2, vI n), (4, vI s), (5, vI t)]) dX10_isClosed_109 rfl (Nat.le_of_ble_eq_true rfl) rfl ?_
                      refine x_iinc 5 (L' := [(5, vI (t + 1)), (3, vI 1), (0, vA m), (1, vI f), (2, vI n), (4, vI s)]) dX10_isClosed_110 rfl (by unfold okI; omega) (Nat.le_of_ble_eq_true rfl) rfl ?_
                      refine x_goto 52 dX10_isClosed_113 (by decide) ?_
                      exact EX.pick [2, 3, 4, 1, 5, 0] rfl (ih_52 1 (t + 1)  (by omega) (by omega) (b2i_t (hp.one c_100)).symm)
            exact EX.pick [1, 2, 3, 4, 5, 0] rfl (loop_52 ((n - (s : Int)).toNat + 1) ie s  (Nat.lt_succ_self _) (by omega) hie)
    exact EX.pick [3, 4, 2, 1, 0] rfl (loop_38 ((n - (1 : Int)).toNat + 1) 0 1  (Nat.lt_succ_self _) (by omega) (b2i_f (fun z => c_25 z.1)).symm)
  · refine x_iconst dX10_isClosed_29 (okI_c rfl) ?_
    refine x_goto 34 dX10_isClosed_30 (by decide) ?_
    refine x_istore_n (L' := [(3, vI 1), (2, vI n), (0, vA m), (1, vI f)]) dX10_isClosed_34 rfl (Nat.le_of_ble_eq_true rfl) rfl ?_
    refine x_iconst dX10_isClosed_35 (okI_c rfl) ?_
    refine x_istore (L' := [(4, vI 1), (3, vI 1), (2, vI n), (0, vA m), (1, vI f)]) dX10_isClosed_36 (Nat.le_of_ble_eq_true rfl) rfl ?_
    have loop_38 : ∀ (k_38 : Nat) (ie : Int) (s : Int) , (n - s).toNat < k_38 → (1 ≤ s) → (ie = b2i (ClU (sF S f) (sA S f) (sT S f + sD S f) s s)) → EX G mX10_isClosed d 0 0 (Ret (vI (b2i (Closed (sT S f) (sD S f) (sC S f) (sA S f)))) h) 38 [(0, vA m), (1, vI f), (2, vI n), (3, vI ie), (4, vI s)] [] h 0 0 := by
      intro k_38
      induction k_38 with
      | zero => intro ie s hm; exact absurd hm (Nat.not_lt_zero _)
      | succ k_38 ih_38 =>
        intro ie s hm_38 hs1 hie
        refine x_iload 4 dX10_isClosed_38 rfl ?_
        refine x_iload_n 2 dX10_isClosed_40 rfl rfl ?_
        refine x_icmp_ge 122 dX10_isClosed_41 (by decide) (fun c_41 => ?_) (fun c_41 => ?_)
        · refine x_iload_n 3 dX10_isClosed_122 rfl rfl ?_
          exact x_zreturn dX10_isClosed_123 rfl (by rw [hie]; exact b2i_or _) (by decide) (by decide) (retI (by first | (rw [hie]; exact b2i_congr ⟨fun z => ClU.closed z (by omega), fun z => z.clu⟩) | (rw [c_45]; exact (b2i_f (fun z => (b2i_eq (P := ClU (sF S f) (sA S f) (sT S f + sD S f) s s) (by rw [← hie]; exact c_45)) z.clu)).symm)))
        · refine x_iload_n 3 dX10_isClosed_44 rfl rfl ?_
          refine x_if_eq 122 dX10_isClosed_45 (by decide) (fun c_45 => ?_) (fun c_45 => ?_)
          · refine x_iload_n 3 dX10_isClosed_122 rfl rfl ?_
            exact x_zreturn dX10_isClosed_123 rfl (by rw [hie]; exact b2i_or _) (by decide) (by decide) (retI (by first | (rw [hie]; exact b2i_congr ⟨fun z => ClU.closed z (by omega), fun z => z.clu⟩) | (rw [c_45]; exact (b2i_f (fun z => (b2i_eq (P := ClU (sF S f) (sA S f) (sT S f + sD S f) s s) (by rw [← hie]; exact c_45)) z.clu)).symm)))
          · refine x_iload 4 dX10_isClosed_48 rfl ?_
            refine x_istore (L' := [(5, vI s), (0, vA m), (1, vI f), (2, vI n), (3, vI ie), (4, vI s)]) dX10_isClosed_50 (Nat.le_of_ble_eq_true rfl) rfl ?_
            have loop_52 : ∀ (k_52 : Nat) (ie : Int) (t : Int) , (n - t).toNat < k_52 → (s ≤ t) → (ie = b2i (ClU (sF S f) (sA S f) (sT S f + sD S f) s t)) → EX G mX10_isClosed d 0 0 (Ret (vI (b2i (Closed (sT S f) (sD S f) (sC S f) (sA S f)))) h) 52 [(0, vA m), (1, vI f), (2, vI n), (3, vI ie), (4, vI s), (5, vI t)] [] h 0 0 := by
              intro k_52
              induction k_52 with
              | zero => intro ie t hm; exact absurd hm (Nat.not_lt_zero _)
              | succ k_52 ih_52 =>
                intro ie t hm_52 hst hie
                refine x_iload 5 dX10_isClosed_52 rfl ?_
                refine x_iload_n 2 dX10_isClosed_54 rfl rfl ?_
                refine x_icmp_ge 116 dX10_isClosed_55 (by decide) (fun c_55 => ?_) (fun c_55 => ?_)
                · refine x_iinc 4 (L' := [(4, vI (s + 1)), (0, vA m), (1, vI f), (2, vI n), (3, vI ie), (5, vI t)]) dX10_isClosed_116 rfl (by unfold okI; omega) (Nat.le_of_ble_eq_true rfl) rfl ?_
                  refine x_goto 38 dX10_isClosed_119 (by decide) ?_
                  exact EX.pick [1, 2, 3, 4, 0] rfl (ih_38 ie (s + 1)  (by omega) (by omega) (by first | (rw [hie]; exact b2i_congr ⟨fun z => z.next (by omega), fun z => z.back⟩) | (rw [c_59]; exact (b2i_f (fun z => (b2i_eq (P := ClU (sF S f) (sA S f) (sT S f + sD S f) s t) (by rw [← hie]; exact c_59)) z.back)).symm)))
                · refine x_iload_n 3 dX10_isClosed_58 rfl rfl ?_
                  refine x_if_eq 116 dX10_isClosed_59 (by decide) (fun c_59 => ?_) (fun c_59 => ?_)
                  · refine x_iinc 4 (L' := [(4, vI (s + 1)), (0, vA m), (1, vI f), (2, vI n), (3, vI ie), (5, vI t)]) dX10_isClosed_116 rfl (by unfold okI; omega) (Nat.le_of_ble_eq_true rfl) rfl ?_
                    refine x_goto 38 dX10_isClosed_119 (by decide) ?_
                    exact EX.pick [1, 2, 3, 4, 0] rfl (ih_38 ie (s + 1)  (by omega) (by omega) (by first | (rw [hie]; exact b2i_congr ⟨fun z => z.next (by omega), fun z => z.back⟩) | (rw [c_59]; exact (b2i_f (fun z => (b2i_eq (P := ClU (sF S f) (sA S f) (sT S f + sD S f) s t) (by rw [← hie]; exact c_59)) z.back)).symm)))
                  · have hp : ClU (sF S f) (sA S f) (sT S f + sD S f) s t := b2i_ne (by rw [← hie]; exact c_59)
                    refine x_aload_n 0 dX10_isClosed_62 rfl rfl ?_
                    refine x_iload_n 1 dX10_isClosed_63 rfl rfl ?_
                    refine x_iload 4 dX10_isClosed_64 rfl ?_
                    refine x_iload 5 dX10_isClosed_66 rfl ?_
                    refine x_iadd dX10_isClosed_68 (by unfold okI; omega) ?_
                    refine x_i2l dX10_isClosed_69 ?_
                    refine x_callV [vI f, vJ (s + t)] dX10_isClosed_70 kv_X10_95 rfl rfl hm (by omega) (Nat.le_of_ble_eq_true rfl) (by omega) (by omega) (k_X10_value (d := 0) hM hS (f := f) (t := s + t) hf (by omega) (by omega)) (after_ret ?_)
                    refine x_aload_n 0 dX10_isClosed_73 rfl rfl ?_
                    refine x_get 5 dX10_isClosed_74 fl_X10_23 hm rfl ?_
                    refine x_sipush dX10_isClosed_77 (okI_c rfl) (by decide +kernel) ?_
                    refine x_iload_n 1 dX10_isClosed_80 rfl rfl ?_
                    refine x_imul dX10_isClosed_81 (by unfold okI; omega) ?_
                    refine x_iload 4 dX10_isClosed_82 rfl ?_
                    refine x_iadd dX10_isClosed_84 (by unfold okI; omega) ?_
                    refine x_laload dX10_isClosed_85 hb5 (by omega) (by omega) ?_
                    refine x_asJ (y := (sA S f s.toNat)) (hcf.2.2.2.2 s (by omega) (by omega)) ?_
                    refine x_aload_n 0 dX10_isClosed_86 rfl rfl ?_
                    refine x_get 5 dX10_isClosed_87 fl_X10_23 hm rfl ?_
                    refine x_sipush dX10_isClosed_90 (okI_c rfl) (by decide +kernel) ?_
                    refine x_iload_n 1 dX10_isClosed_93 rfl rfl ?_
                    refine x_imul dX10_isClosed_94 (by unfold okI; omega) ?_
                    refine x_iload 5 dX10_isClosed_95 rfl ?_
                    refine x_iadd dX10_isClosed_97 (by unfold okI; omega) ?_
                    refine x_laload dX10_isClosed_98 hb5 (by omega) (by omega) ?_
                    refine x_asJ (y := (sA S f t.toNat)) (hcf.2.2.2.2 t (by omega) (by omega)) ?_
                    have w1 := hAf s (by omega) (by omega)
                    have w2 := hAf t (by omega) (by omega)
                    refine x_ladd dX10_isClosed_99 (by unfold okJ; omega) ?_
                    refine x_lc_gt 108 dX10_isClosed_100 dX10_isClosed_101 (by decide) (fun c_100 => ?_) (fun c_100 => ?_)
                    · refine x_iconst dX10_isClosed_108 (okI_c rfl) ?_
                      refine x_istore_n (L' := [(3, vI 0), (0, vA m), (1, vI f), (2, vI n), (4, vI s), (5, vI t)]) dX10_isClosed_109 rfl (Nat.le_of_ble_eq_true rfl) rfl ?_
                      refine x_iinc 5 (L' := [(5, vI (t + 1)), (3, vI 0), (0, vA m), (1, vI f), (2, vI n), (4, vI s)]) dX10_isClosed_110 rfl (by unfold okI; omega) (Nat.le_of_ble_eq_true rfl) rfl ?_
                      refine x_goto 52 dX10_isClosed_113 (by decide) ?_
                      exact EX.pick [2, 3, 4, 1, 5, 0] rfl (ih_52 0 (t + 1)  (by omega) (by omega) (b2i_f (fun z => by have := z.of1 (by omega) (by omega) (by omega); omega)).symm)
                    · refine x_iconst dX10_isClosed_104 (okI_c rfl) ?_
                      refine x_goto 109 dX10_isClosed_105 (by decide) ?_
                      refine x_istore_n (L' := [(3, vI 1), (0, vA m), (1, vI f), (2, vI n), (4, vI s), (5, vI t)]) dX10_isClosed_109 rfl (Nat.le_of_ble_eq_true rfl) rfl ?_
                      refine x_iinc 5 (L' := [(5, vI (t + 1)), (3, vI 1), (0, vA m), (1, vI f), (2, vI n), (4, vI s)]) dX10_isClosed_110 rfl (by unfold okI; omega) (Nat.le_of_ble_eq_true rfl) rfl ?_
                      refine x_goto 52 dX10_isClosed_113 (by decide) ?_
                      exact EX.pick [2, 3, 4, 1, 5, 0] rfl (ih_52 1 (t + 1)  (by omega) (by omega) (b2i_t (hp.one c_100)).symm)
            exact EX.pick [1, 2, 3, 4, 5, 0] rfl (loop_52 ((n - (s : Int)).toNat + 1) ie s  (Nat.lt_succ_self _) (by omega) hie)
    exact EX.pick [3, 4, 2, 1, 0] rfl (loop_38 ((n - (1 : Int)).toNat + 1) 1 1  (Nat.lt_succ_self _) (by omega) (b2i_t ⟨c_25, fun u v q1 q2 q3 q4 => by omega⟩).symm)
def SpanU (F : Int → Int) (v x : Int) : Prop := (x = -1 ∧ ∀ t : Int, 0 ≤ t → F t < v) ∨ (0 ≤ x ∧ v ≤ F x ∧ ∀ t : Int, 0 ≤ t → t < x → F t < v)
theorem span_r {T D C v r : Int} {A : Nat → Int} (ok : CvOk T D C A) (hC : 1 ≤ C) (hr0 : 0 ≤ r) (hr : r < D) (hl : A (T + r).toNat < v) (hv : v ≤ cval T D C A 1000000000000000) : v ≤ cval T D C A (T + r + (v - A (T + r).toNat + C - 1) / C * D) ∧ (∀ t : Int, T ≤ t → (t - T) % D = r → t < T + r + (v - A (T + r).toNat + C - 1) / C * D → cval T D C A t < v) ∧ 0 ≤ (v - A (T + r).toNat + C - 1) / C * D ∧ (v - A (T + r).toNat + C - 1) / C * D ≤ 1000000000000060 := by
  have hMo := cval_M ok
  obtain ⟨hT0, hT2, hD0, hD6, hC0, hC1, hA, hM, hW⟩ := id ok
  have ha : cval T D C A (T + r) = A (T + r).toNat := cval_lt (by omega)
  generalize A (T + r).toNat = a at *
  generalize hk : (v - a + C - 1) / C = k
  have e1 := Int.mul_ediv_add_emod (v - a + C - 1) C
  have m0 := Int.emod_nonneg (v - a + C - 1) (show C ≠ 0 by omega)
  have m1 := Int.emod_lt_of_pos (v - a + C - 1) (show 0 < C by omega)
  rw [hk] at e1
  have k0 : 0 ≤ k := by rw [← hk]; exact Int.ediv_nonneg (by omega) (by omega)
  have at_ : ∀ j : Int, 0 ≤ j → cval T D C A (T + r + j * D) = a + j * C := fun j hj => by
    have := cval_pers (T := T) (C := C) (am := A) (t := T + r) hD0 (by omega) j.toNat
    rw [show ((j.toNat : Nat) : Int) = j by omega, ha] at this
    exact this
  refine ⟨?_, fun t q1 q2 q3 => ?_, Int.mul_nonneg k0 (by omega), ?_⟩
  · rw [at_ k k0, Int.mul_comm]; omega
  · have d1 := Int.mul_ediv_add_emod (t - T) D
    have d0 : 0 ≤ (t - T) / D := Int.ediv_nonneg (by omega) (by omega)
    have et : t = T + r + (t - T) / D * D := by rw [Int.mul_comm]; omega
    have hjk : (t - T) / D ≤ k - 1 := by
      rcases Int.lt_or_le ((t - T) / D) k with q | q
      · omega
      · have := Int.mul_le_mul_of_nonneg_right q (show 0 ≤ D by omega)
        omega
    have := Int.mul_le_mul_of_nonneg_right hjk (show 0 ≤ C by omega)
    rw [Int.sub_mul, Int.one_mul, Int.mul_comm k C] at this
    rw [et, at_ _ d0]
    omega
  · have w1 : cval T D C A 1000000000000000 ≤ a + ((1000000000000000 - T) / D + 1) * C := by
      have j0 : 0 ≤ (1000000000000000 - T) / D := Int.ediv_nonneg (by omega) (by omega)
      have := at_ ((1000000000000000 - T) / D + 1) (by omega)
      rw [← this]
      have d1 := Int.mul_ediv_add_emod (1000000000000000 - T) D
      have d2 := Int.emod_lt_of_pos (1000000000000000 - T) (show 0 < D by omega)
      refine hMo.2 _ _ (by omega) ?_
      rw [Int.add_mul, Int.one_mul, Int.mul_comm _ D]
      omega
    have w2 : k ≤ (1000000000000000 - T) / D + 1 := by
      rcases Int.lt_or_le ((1000000000000000 - T) / D + 1) k with q | q
      · have q' : (1000000000000000 - T) / D + 2 ≤ k := by omega
        have w3 := Int.mul_le_mul_of_nonneg_right q' (show 0 ≤ C by omega)
        have e2 : ((1000000000000000 - T) / D + 2) * C = ((1000000000000000 - T) / D + 1) * C + C := by
          rw [Int.add_mul, Int.add_mul]; omega
        rw [Int.mul_comm k C] at w3
        omega
      · exact q
    have w4 := Int.mul_le_mul_of_nonneg_right w2 (show 0 ≤ D by omega)
    have d1 := Int.mul_ediv_add_emod (1000000000000000 - T) D
    have d2 := Int.emod_nonneg (1000000000000000 - T) (show D ≠ 0 by omega)
    rw [Int.add_mul, Int.one_mul, Int.mul_comm ((1000000000000000 - T) / D) D] at w4
    omega
theorem cval_flat {T D t : Int} {A : Nat → Int} {v : Int} (hD : 1 ≤ D) (hT : 0 ≤ T) (h : ∀ u : Int, 0 ≤ u → u < T + D → A u.toNat < v) (ht : 0 ≤ t) : cval T D 0 A t < v := by
  by_cases q : t < T + D
  · rw [cval_lt q]; exact h t ht q
  · rw [cval, if_neg q, Int.mul_zero, Int.add_zero]
    have m0 := Int.emod_nonneg (t - T) (show D ≠ 0 by omega)
    have m1 := Int.emod_lt_of_pos (t - T) (show 0 < D by omega)
    exact h _ (by omega) (by omega)
set_option maxRecDepth 100000 in
set_option maxHeartbeats 4000000 in
theorem k_X10_spanOf {G : aG} {d : Nat} {m b1 b2 b3 b4 b5 b6 b7 b8 b9 lo hi : Nat} {S : aS} {nc : Nat} {h : aH} (hM : MRel m b1 b2 b3 b4 b5 b6 b7 b8 b9 lo hi S h) (hS : SOk nc S) {f v : Int} (hf : isC S f) (hv0 : 0 ≤ v) (hv1 : v ≤ 4000000000000000000) (hvC : sC S f = 0 ∨ v ≤ sF S f 1000000000000000) : MC G mX10_spanOf d 0 0 [vA m, vI f, vJ v] h (fun r' h' => ∃ x : Int, r' = some (vJ x) ∧ h' = h ∧ SpanU (sF S f) v x ∧ x ≤ 2000000000000000) := by
  obtain ⟨⟨o0, o1, o2, o3, o4, o5, o6, o7, o8, o9, oA⟩, hm, ⟨gT, gD, gC, gK, gA, hb1, hb2, hb3, hb4, hb5, hcu⟩, ⟨fr, hb6, hrw⟩, ⟨sm, hb7, hsm⟩, ⟨g8, hb8, htl⟩, ⟨gw, hb9⟩⟩ := id hM
  obtain ⟨⟨s1, s2⟩, s3, ⟨s4, s5⟩, ⟨s6, s7, s8⟩, s9, ⟨s10, s11⟩, s12⟩ := id hS
  have hcf := hcu f hf.1 hf.2
  obtain ⟨hT0f, hT2f, hD0f, hD6f, hC0f, hC1f, hAf, hMf, hWf⟩ := id (s3 f hf.1 hf.2)
  have hlf := hf.2
  have hzf := hf.1
  refine MC.of (by decide) (Nat.le_of_ble_eq_true rfl) (fun ok okh => ?_)
  show EX G mX10_spanOf d 0 0 _ 0 [(0, vA m), (1, vI f), (2, vJ v)] [] h 0 0
  refine x_aload_n 0 dX10_spanOf_0 rfl rfl ?_
  refine x_get 1 dX10_spanOf_1 fl_X10_7 hm rfl ?_
  refine x_iload_n 1 dX10_spanOf_4 rfl rfl ?_
  refine x_iaload dX10_spanOf_5 hb1 (by omega) (by omega) ?_
  refine x_asI (y := (sT S f)) hcf.1 ?_
  refine x_aload_n 0 dX10_spanOf_6 rfl rfl ?_
  refine x_get 2 dX10_spanOf_7 fl_X10_13 hm rfl ?_
  refine x_iload_n 1 dX10_spanOf_10 rfl rfl ?_
  refine x_iaload dX10_spanOf_11 hb2 (by omega) (by omega) ?_
  refine x_asI (y := (sD S f)) hcf.2.1 ?_
  refine x_iadd dX10_spanOf_12 (by unfold okI; omega) ?_
  refine x_nmI (fun n e_n => ?_)
  refine x_istore (L' := [(4, vI n), (0, vA m), (1, vI f), (2, vJ v)]) dX10_spanOf_13 (Nat.le_of_ble_eq_true rfl) rfl ?_
  refine x_iconst dX10_spanOf_15 (okI_c rfl) ?_
  refine x_istore (L' := [(5, vI 0), (4, vI n), (0, vA m), (1, vI f), (2, vJ v)]) dX10_spanOf_16 (Nat.le_of_ble_eq_true rfl) rfl ?_
  have loop_18 : ∀ (k_18 : Nat) (t : Int) , (n - t).toNat < k_18 → (0 ≤ t) → (t ≤ n) → (∀ u : Int, 0 ≤ u → u < t → sA S f u.toNat < v) → EX G mX10_spanOf d 0 0 (fun r' h' => ∃ x : Int, r' = some (vJ x) ∧ h' = h ∧ SpanU (sF S f) v x ∧ x ≤ 2000000000000000) 18 [(0, vA m), (1, vI f), (2, vJ v), (4, vI n), (5, vI t)] [] h 0 0 := by
    intro k_18
    induction k_18 with
    | zero => intro t hm; exact absurd hm (Nat.not_lt_zero _)
    | succ k_18 ih_18 =>
      intro t hm_18 ht0 ht1 hw
      refine x_iload 4 dX10_spanOf_18 rfl ?_
      refine x_iload 3 dX10_spanOf_20 rfl ?_
      refine x_icmp_ge 53 dX10_spanOf_22 (by decide) (fun c_22 => ?_) (fun c_22 => ?_)
      · have hlow : ∀ u : Int, 0 ≤ u → u < sT S f + sD S f → sA S f u.toNat < v := fun u q1 q2 => hw u q1 (by omega)
        refine x_aload_n 0 dX10_spanOf_53 rfl rfl ?_
        refine x_get 3 dX10_spanOf_54 fl_X10_16 hm rfl ?_
        refine x_iload_n 1 dX10_spanOf_57 rfl rfl ?_
        refine x_laload dX10_spanOf_58 hb3 (by omega) (by omega) ?_
        refine x_asJ (y := (sC S f)) hcf.2.2.1 ?_
        refine x_lconst (x := 0) dX10_spanOf_59 (okJ_c rfl) rfl ?_
        refine x_lc_ne 68 dX10_spanOf_60 dX10_spanOf_61 (by decide) (fun c_60 => ?_) (fun c_60 => ?_)
        · refine x_ldc2 (n := (-1)) dX10_spanOf_68 (okJ_c rfl) kc_X10_45 ?_
          refine x_lstore (L' := [(5, vJ ((-1))), (0, vA m), (1, vI f), (2, vJ v), (4, vI n)]) dX10_spanOf_71 (Nat.le_of_ble_eq_true rfl) rfl ?_
          refine x_iconst dX10_spanOf_73 (okI_c rfl) ?_
          refine x_istore (L' := [(7, vI 0), (5, vJ ((-1))), (0, vA m), (1, vI f), (2, vJ v), (4, vI n)]) dX10_spanOf_74 (Nat.le_of_ble_eq_true rfl) rfl ?_
          have loop_76 : ∀ (k_76 : Nat) (best : Int) (r : Int) , (sD S f - r).toNat < k_76 → (0 ≤ r) → (r ≤ sD S f) → ((r = 0 ∧ best = -1) ∨ (0 ≤ best ∧ v ≤ sF S f best ∧ best ≤ 2000000000000000)) → (∀ t : Int, sT S f ≤ t → (t - sT S f) % sD S f < r → t < best → sF S f t < v) → EX G mX10_spanOf d 0 0 (fun r' h' => ∃ x : Int, r' = some (vJ x) ∧ h' = h ∧ SpanU (sF S f) v x ∧ x ≤ 2000000000000000) 76 [(0, vA m), (1, vI f), (2, vJ v), (5, vJ best), (7, vI r)] [] h 0 0 := by
            intro k_76
            induction k_76 with
            | zero => intro best r hm; exact absurd hm (Nat.not_lt_zero _)
            | succ k_76 ih_76 =>
              intro best r hm_76 hr0 hr1 hb hall
              refine x_iload 4 dX10_spanOf_76 rfl ?_
              refine x_aload_n 0 dX10_spanOf_78 rfl rfl ?_
              refine x_get 2 dX10_spanOf_79 fl_X10_13 hm rfl ?_
              refine x_iload_n 1 dX10_spanOf_82 rfl rfl ?_
              refine x_iaload dX10_spanOf_83 hb2 (by omega) (by omega) ?_
              refine x_asI (y := (sD S f)) hcf.2.1 ?_
              refine x_icmp_ge 180 dX10_spanOf_84 (by decide) (fun c_84 => ?_) (fun c_84 => ?_)
              · refine x_lload 3 dX10_spanOf_180 rfl ?_
                exact x_lreturn dX10_spanOf_182 rfl (by decide) (by decide) ⟨_, rfl, rfl, by rcases hb with z | z; omega; exact ⟨Or.inr ⟨z.1, z.2.1, fun t q1 q2 => by by_cases q : t < sT S f; rw [sF, cval_lt (by omega)]; exact hlow t q1 (by omega); exact hall t (by omega) (by have := Int.emod_lt_of_pos (t - sT S f) (show 0 < sD S f by omega); omega) q2⟩, z.2.2⟩⟩
              · refine x_lload_n 2 dX10_spanOf_87 rfl rfl ?_
                refine x_aload_n 0 dX10_spanOf_88 rfl rfl ?_
                refine x_get 5 dX10_spanOf_89 fl_X10_23 hm rfl ?_
                refine x_sipush dX10_spanOf_92 (okI_c rfl) (by decide +kernel) ?_
                refine x_iload_n 1 dX10_spanOf_95 rfl rfl ?_
                refine x_imul dX10_spanOf_96 (by unfold okI; omega) ?_
                refine x_aload_n 0 dX10_spanOf_97 rfl rfl ?_
                refine x_get 1 dX10_spanOf_98 fl_X10_7 hm rfl ?_
                refine x_iload_n 1 dX10_spanOf_101 rfl rfl ?_
                refine x_iaload dX10_spanOf_102 hb1 (by omega) (by omega) ?_
                refine x_asI (y := (sT S f)) hcf.1 ?_
                refine x_iadd dX10_spanOf_103 (by unfold okI; omega) ?_
                refine x_iload 4 dX10_spanOf_104 rfl ?_
                refine x_iadd dX10_spanOf_106 (by unfold okI; omega) ?_
                refine x_laload dX10_spanOf_107 hb5 (by omega) (by omega) ?_
                refine x_asJ (y := (sA S f (sT S f + r).toNat)) (by have := hcf.2.2.2.2 (sT S f + r) (by omega) (by omega); rw [← Int.add_assoc] at this; exact this) ?_
                refine x_lsub dX10_spanOf_108 (by have := hAf (sT S f + r) (by omega) (by omega); unfold okJ; omega) ?_
                refine x_nmJ (fun lk e_lk => ?_)
                refine x_lstore (L' := [(8, vJ lk), (0, vA m), (1, vI f), (2, vJ v), (5, vJ best), (7, vI r)]) dX10_spanOf_109 (Nat.le_of_ble_eq_true rfl) rfl ?_
                have hlt := hlow (sT S f + r) (by omega) (by omega)
                have sp := span_r (s3 f hf.1 hf.2) (by omega) hr0 (by omega) hlt (hvC.resolve_left (by omega))
                rw [← e_lk] at sp
                obtain ⟨sp1, sp2, sp3, sp4⟩ := sp
                refine x_aload_n 1 dX10_spanOf_111 rfl rfl ?_
                refine x_get 1 dX10_spanOf_112 fl_X10_7 hm rfl ?_
                refine x_iload_n 2 dX10_spanOf_115 rfl rfl ?_
                refine x_iaload dX10_spanOf_116 hb1 (by omega) (by omega) ?_
                refine x_asI (y := (sT S f)) hcf.1 ?_
                refine x_iload 5 dX10_spanOf_117 rfl ?_
                refine x_iadd dX10_spanOf_119 (by unfold okI; omega) ?_
                refine x_i2l dX10_spanOf_120 ?_
                refine x_lload 0 dX10_spanOf_121 rfl ?_
                refine x_aload_n 1 dX10_spanOf_123 rfl rfl ?_
                refine x_get 3 dX10_spanOf_124 fl_X10_16 hm rfl ?_
                refine x_iload_n 2 dX10_spanOf_127 rfl rfl ?_
                refine x_laload dX10_spanOf_128 hb3 (by omega) (by omega) ?_
                refine x_asJ (y := (sC S f)) hcf.2.2.1 ?_
                refine x_ladd dX10_spanOf_129 (by have := hAf (sT S f + r) (by omega) (by omega); unfold okJ; omega) ?_
                refine x_lconst (x := 1) dX10_spanOf_130 (okJ_c rfl) rfl ?_
                refine x_lsub dX10_spanOf_131 (by have := hAf (sT S f + r) (by omega) (by omega); unfold okJ; omega) ?_
                refine x_aload_n 1 dX10_spanOf_132 rfl rfl ?_
                refine x_get 3 dX10_spanOf_133 fl_X10_16 hm rfl ?_
                refine x_iload_n 2 dX10_spanOf_136 rfl rfl ?_
                refine x_laload dX10_spanOf_137 hb3 (by omega) (by omega) ?_
                refine x_asJ (y := (sC S f)) hcf.2.2.1 ?_
                refine x_ldiv dX10_spanOf_138 (by omega) (by omega) ?_
                refine x_aload_n 1 dX10_spanOf_139 rfl rfl ?_
                refine x_get 2 dX10_spanOf_140 fl_X10_13 hm rfl ?_
                refine x_iload_n 2 dX10_spanOf_143 rfl rfl ?_
                refine x_iaload dX10_spanOf_144 hb2 (by omega) (by omega) ?_
                refine x_asI (y := (sD S f)) hcf.2.1 ?_
                refine x_i2l dX10_spanOf_145 ?_
                refine x_lmul dX10_spanOf_146 (by unfold okJ; omega) ?_
                refine x_ladd dX10_spanOf_147 (by unfold okJ; omega) ?_
                refine x_nmJ (fun tt e_tt => ?_)
                refine x_lstore (L' := [(10, vJ tt), (8, vJ lk), (0, vA m), (1, vI f), (2, vJ v), (5, vJ best), (7, vI r)]) dX10_spanOf_148 (Nat.le_of_ble_eq_true rfl) rfl ?_
                rw [← e_tt] at sp1 sp2
                refine x_lload 5 dX10_spanOf_150 rfl ?_
                refine x_lconst (x := 0) dX10_spanOf_152 (okJ_c rfl) rfl ?_
                refine x_lc_lt 165 dX10_spanOf_153 dX10_spanOf_154 (by decide) (fun c_153 => ?_) (fun c_153 => ?_)
                · refine x_lload 0 dX10_spanOf_165 rfl ?_
                  refine x_goto 172 dX10_spanOf_167 (by decide) ?_
                  refine x_lstore (L' := [(5, vJ tt), (10, vJ tt), (8, vJ lk), (0, vA m), (1, vI f), (2, vJ v), (7, vI r)]) dX10_spanOf_172 (Nat.le_of_ble_eq_true rfl) rfl ?_
                  refine x_iinc 6 (L' := [(7, vI (r + 1)), (5, vJ tt), (10, vJ tt), (8, vJ lk), (0, vA m), (1, vI f), (2, vJ v)]) dX10_spanOf_174 rfl (by unfold okI; omega) (Nat.le_of_ble_eq_true rfl) rfl ?_
                  refine x_goto 76 dX10_spanOf_177 (by decide) ?_
                  exact EX.pick [4, 5, 6, 1, 0] rfl (ih_76 tt (r + 1)  (by omega) (by omega) (by omega) (Or.inr ⟨by omega, sp1, by omega⟩) (fun t q1 q2 q3 => by by_cases q : (t - sT S f) % sD S f = r; exact sp2 t q1 q q3; have m0 := Int.emod_nonneg (t - sT S f) (show sD S f ≠ 0 by omega); exact hall t q1 (by omega) (by omega)))
                · refine x_lload 0 dX10_spanOf_157 rfl ?_
                  refine x_lload 5 dX10_spanOf_159 rfl ?_
                  refine x_lc_ge 170 dX10_spanOf_161 dX10_spanOf_162 (by decide) (fun c_161 => ?_) (fun c_161 => ?_)
                  · refine x_lload 5 dX10_spanOf_170 rfl ?_
                    refine x_lstore (L' := [(5, vJ best), (10, vJ tt), (8, vJ lk), (0, vA m), (1, vI f), (2, vJ v), (7, vI r)]) dX10_spanOf_172 (Nat.le_of_ble_eq_true rfl) rfl ?_
                    refine x_iinc 6 (L' := [(7, vI (r + 1)), (5, vJ best), (10, vJ tt), (8, vJ lk), (0, vA m), (1, vI f), (2, vJ v)]) dX10_spanOf_174 rfl (by unfold okI; omega) (Nat.le_of_ble_eq_true rfl) rfl ?_
                    refine x_goto 76 dX10_spanOf_177 (by decide) ?_
                    exact EX.pick [4, 5, 6, 1, 0] rfl (ih_76 best (r + 1)  (by omega) (by omega) (by omega) (Or.inr (hb.elim (fun z => by omega) id)) (fun t q1 q2 q3 => by by_cases q : (t - sT S f) % sD S f = r; exact sp2 t q1 q (by omega); exact hall t q1 (by omega) q3))
                  · refine x_lload 0 dX10_spanOf_165 rfl ?_
                    refine x_goto 172 dX10_spanOf_167 (by decide) ?_
                    refine x_lstore (L' := [(5, vJ tt), (10, vJ tt), (8, vJ lk), (0, vA m), (1, vI f), (2, vJ v), (7, vI r)]) dX10_spanOf_172 (Nat.le_of_ble_eq_true rfl) rfl ?_
                    refine x_iinc 6 (L' := [(7, vI (r + 1)), (5, vJ tt), (10, vJ tt), (8, vJ lk), (0, vA m), (1, vI f), (2, vJ v)]) dX10_spanOf_174 rfl (by unfold okI; omega) (Nat.le_of_ble_eq_true rfl) rfl ?_
                    refine x_goto 76 dX10_spanOf_177 (by decide) ?_
                    exact EX.pick [4, 5, 6, 1, 0] rfl (ih_76 tt (r + 1)  (by omega) (by omega) (by omega) (Or.inr ⟨by omega, sp1, by omega⟩) (fun t q1 q2 q3 => by by_cases q : (t - sT S f) % sD S f = r; exact sp2 t q1 q q3; have m0 := Int.emod_nonneg (t - sT S f) (show sD S f ≠ 0 by omega); exact hall t q1 (by omega) (by omega)))
          exact EX.pick [2, 3, 4, 1, 0] rfl (loop_76 ((sD S f - (0 : Int)).toNat + 1) (-1) 0  (Nat.lt_succ_self _) (by omega) (by omega) (Or.inl ⟨rfl, rfl⟩) (fun t q1 q2 q3 => by omega))
        · refine x_ldc2 (n := (-1)) dX10_spanOf_64 (okJ_c rfl) kc_X10_45 ?_
          exact x_lreturn dX10_spanOf_67 rfl (by decide) (by decide) ⟨_, rfl, rfl, Or.inl ⟨rfl, fun t q1 => by rw [sF, c_60]; exact cval_flat (by omega) (by omega) hlow q1⟩, by omega⟩
      · refine x_aload_n 0 dX10_spanOf_25 rfl rfl ?_
        refine x_get 5 dX10_spanOf_26 fl_X10_23 hm rfl ?_
        refine x_sipush dX10_spanOf_29 (okI_c rfl) (by decide +kernel) ?_
        refine x_iload_n 1 dX10_spanOf_32 rfl rfl ?_
        refine x_imul dX10_spanOf_33 (by unfold okI; omega) ?_
        refine x_iload 4 dX10_spanOf_34 rfl ?_
        refine x_iadd dX10_spanOf_36 (by unfold okI; omega) ?_
        refine x_laload dX10_spanOf_37 hb5 (by omega) (by omega) ?_
        refine x_asJ (y := (sA S f t.toNat)) (hcf.2.2.2.2 t (by omega) (by omega)) ?_
        refine x_lload_n 2 dX10_spanOf_38 rfl rfl ?_
        refine x_lc_lt 47 dX10_spanOf_39 dX10_spanOf_40 (by decide) (fun c_39 => ?_) (fun c_39 => ?_)
        · refine x_iinc 4 (L' := [(5, vI (t + 1)), (0, vA m), (1, vI f), (2, vJ v), (4, vI n)]) dX10_spanOf_47 rfl (by unfold okI; omega) (Nat.le_of_ble_eq_true rfl) rfl ?_
          refine x_goto 18 dX10_spanOf_50 (by decide) ?_
          exact EX.pick [1, 2, 3, 4, 0] rfl (ih_18 (t + 1)  (by omega) (by omega) (by omega) (fun u q1 q2 => by by_cases q : u = t; subst q; omega; exact hw u q1 (by omega)))
        · refine x_iload 4 dX10_spanOf_43 rfl ?_
          refine x_i2l dX10_spanOf_45 ?_
          exact x_lreturn dX10_spanOf_46 rfl (by decide) (by decide) ⟨_, rfl, rfl, Or.inr ⟨by omega, by rw [sF, cval_lt (by omega)]; omega, fun u q1 q2 => by rw [sF, cval_lt (by omega)]; exact hw u q1 q2⟩, by omega⟩
  exact EX.pick [2, 3, 4, 1, 0] rfl (loop_18 ((n - (0 : Int)).toNat + 1) 0  (Nat.lt_succ_self _) (by omega) (by omega) (fun u q1 q2 => by omega))
