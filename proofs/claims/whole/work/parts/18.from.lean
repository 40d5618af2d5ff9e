/-! ===== Maker: fromRow, fromBoth ===== -/
/-- what THE ROW must be to tell a curve -/
def RowOk (len stp gn : Int) (rf : Nat → Int) : Prop := 1 ≤ stp ∧ stp ≤ 60 ∧ stp ≤ len ∧ len ≤ 300 ∧ 0 ≤ gn ∧ gn ≤ 1000000000 ∧ (∀ i : Int, 0 ≤ i → i < len → 0 ≤ rf i.toNat ∧ rf i.toNat ≤ 3000000000000) ∧ (∀ i : Int, 0 ≤ i → i + 1 < len → rf i.toNat ≤ rf (i + 1).toNat) ∧ rf (len - 1).toNat ≤ rf (len - stp).toNat + gn
theorem row_cval {len stp gn t : Int} {rf : Nat → Int} (h : t < len) : cval (len - stp) stp gn rf t = rf t.toNat := cval_lt (by omega)
theorem row_M {len stp gn : Int} {rf : Nat → Int} (ok : RowOk len stp gn rf) : Mono (cval (len - stp) stp gn rf) := by
  obtain ⟨h1, h2, h3, h4, h5, h6, h7, h8, h9⟩ := ok
  refine row_mono (by omega) h1 h5 (h7 0 (by omega) (by omega)).1 (fun i q1 q2 => h8 i q1 (by omega)) ?_
  rw [show len - stp + stp - 1 = len - 1 by omega]; exact h9
theorem row_B {len stp gn : Int} {rf : Nat → Int} (ok : RowOk len stp gn rf) : Bnd (cval (len - stp) stp gn rf) (len - stp + 2 * stp) 4000000000000000 := by
  have hM := row_M ok
  obtain ⟨h1, h2, h3, h4, h5, h6, h7, h8, h9⟩ := ok
  intro t q1 q2
  refine ⟨hM.1 t q1, ?_⟩
  by_cases q : t < len
  · rw [row_cval q]; have := (h7 t q1 q).2; omega
  · have := cval_per (T := len - stp) (D := stp) (C := gn) (am := rf) (t := t - stp) h1 (by omega)
    rw [show t - stp + stp = t by omega, row_cval (show t - stp < len by omega)] at this
    have := (h7 (t - stp) (by omega) (by omega)).2
    omega
set_option maxRecDepth 100000 in
set_option maxHeartbeats 4000000 in
theorem k_X3_fromRow {G : aG} {d : Nat} (hd : 6 ≤ d) {h : aH} {m md on ot : Nat} {g f1 f2 : Nat → Int} (hm : MakAt h m md on ot g f1 f2) {ra : Nat} {rf : Nat → Int} (hr : h ra = some (eJ 300 rf)) (hrm : ra ≠ md) {len stp gn : Int} (hrow : RowOk len stp gn rf) : MC G mX3_fromRow d 2 265 [vA m, vA ra, vI len, vI stp, vI gn] h (fun r' h' => ∃ h1 : aH, Scr m md on ot h h1 ∧ MkOut h1 ((cval (len - stp) stp gn rf)) (stp) (gn) r' h') := by
  obtain ⟨r1, r2, r3, r4, r5, r6, r7, r8, r9⟩ := id hrow
  refine MC.of (by decide) (Nat.le_of_ble_eq_true rfl) (fun ok okh => ?_)
  show EX G mX3_fromRow d 2 265 _ 0 [(0, vA m), (1, vA ra), (2, vI len), (3, vI stp), (4, vI gn)] [] h 0 0
  refine x_iload_n 2 dX3_fromRow_0 rfl rfl ?_
  refine x_iload_n 3 dX3_fromRow_1 rfl rfl ?_
  refine x_isub dX3_fromRow_2 (by unfold okI; omega) ?_
  refine x_nmI (fun x1 e_x1 => ?_)
  refine x_istore (L' := [(5, vI x1), (0, vA m), (1, vA ra), (2, vI len), (3, vI stp), (4, vI gn)]) dX3_fromRow_3 (Nat.le_of_ble_eq_true rfl) rfl ?_
  refine x_iload_n 4 dX3_fromRow_5 rfl rfl ?_
  refine x_iconst dX3_fromRow_6 (okI_c rfl) ?_
  refine x_icmp_lt 30 dX3_fromRow_7 (by decide) (fun c_7 => (by exfalso; omega)) (fun c_7 => ?_)
  refine x_iload 0 dX3_fromRow_10 rfl ?_
  refine x_if_lt 30 dX3_fromRow_12 (by decide) (fun c_12 => (by exfalso; omega)) (fun c_12 => ?_)
  refine x_iload_n 3 dX3_fromRow_15 rfl rfl ?_
  refine x_aload_n 2 dX3_fromRow_16 rfl rfl ?_
  refine x_alenJ dX3_fromRow_17 hr (by omega) ?_
  refine x_icmp_gt 30 dX3_fromRow_18 (by decide) (fun c_18 => (by exfalso; omega)) (fun c_18 => ?_)
  refine x_iload_n 3 dX3_fromRow_21 rfl rfl ?_
  refine x_iload_n 4 dX3_fromRow_22 rfl rfl ?_
  refine x_iadd dX3_fromRow_23 (by unfold okI; omega) ?_
  refine x_sipush dX3_fromRow_24 (okI_c rfl) (by decide +kernel) ?_
  refine x_icmp_le 32 dX3_fromRow_27 (by decide) (fun c_27 => ?_) (fun c_27 => (by exfalso; omega))
  refine x_iconst dX3_fromRow_32 (okI_c rfl) ?_
  refine x_istore (L' := [(6, vI 0), (5, vI x1), (0, vA m), (1, vA ra), (2, vI len), (3, vI stp), (4, vI gn)]) dX3_fromRow_33 (Nat.le_of_ble_eq_true rfl) rfl ?_
  have loop_35 : ∀ (k_35 : Nat) (t : Int) (gi : Nat → Int), (len - t).toNat < k_35 → 0 ≤ t → t ≤ len → Tells gi (cval (len - stp) stp gn rf) t → EX G mX3_fromRow d 2 265 (fun r' h' => ∃ h1 : aH, Scr m md on ot h h1 ∧ MkOut h1 ((cval (len - stp) stp gn rf)) (stp) (gn) r' h') 35 [(0, vA m), (1, vA ra), (2, vI len), (3, vI stp), (4, vI gn), (5, vI x1), (6, vI t)] [] (hset h md (eJ 600 gi)) 0 0 := by
    intro k_35
    induction k_35 with
    | zero => intro t gi hm; exact absurd hm (Nat.not_lt_zero _)
    | succ k_35 ih_35 =>
      intro t gi hm_35 ht0 ht1 htl
      refine x_iload 6 dX3_fromRow_35 rfl ?_
      refine x_iload_n 2 dX3_fromRow_37 rfl rfl ?_
      refine x_icmp_ge 58 dX3_fromRow_38 (by decide) (fun c_38 => ?_) (fun c_38 => ?_)
      · refine x_iload_n 2 dX3_fromRow_58 rfl rfl ?_
        refine x_istore (L' := [(6, vI len), (0, vA m), (1, vA ra), (2, vI len), (3, vI stp), (4, vI gn), (5, vI x1)]) dX3_fromRow_59 (Nat.le_of_ble_eq_true rfl) rfl ?_
        have loop_61 : ∀ (k_61 : Nat) (t : Int) (gj : Nat → Int), (len + stp - t).toNat < k_61 → len ≤ t → t ≤ len + stp → Tells gj (cval (len - stp) stp gn rf) t → EX G mX3_fromRow d 2 265 (fun r' h' => ∃ h1 : aH, Scr m md on ot h h1 ∧ MkOut h1 ((cval (len - stp) stp gn rf)) (stp) (gn) r' h') 61 [(0, vA m), (1, vA ra), (2, vI len), (3, vI stp), (4, vI gn), (5, vI x1), (6, vI t)] [] (hset h md (eJ 600 gj)) 0 0 := by
          intro k_61
          induction k_61 with
          | zero => intro t gj hm; exact absurd hm (Nat.not_lt_zero _)
          | succ k_61 ih_61 =>
            intro t gj hm_61 hs0 hs1 htl2
            refine x_iload 6 dX3_fromRow_61 rfl ?_
            refine x_iload_n 2 dX3_fromRow_63 rfl rfl ?_
            refine x_iload_n 3 dX3_fromRow_64 rfl rfl ?_
            refine x_iadd dX3_fromRow_65 (by unfold okI; omega) ?_
            refine x_icmp_ge 95 dX3_fromRow_66 (by decide) (fun c_66 => ?_) (fun c_66 => ?_)
            · refine x_aload_n 0 dX3_fromRow_95 rfl rfl ?_
              refine x_iload 5 dX3_fromRow_96 rfl ?_
              refine x_iload_n 3 dX3_fromRow_98 rfl rfl ?_
              refine x_callV [vI x1, vI stp] dX3_fromRow_99 kv_X3_21 rfl rfl ((hset_ne _ _ (neOJ hm.1 hm.2.1)).trans hm.1) (by omega) (Nat.le_of_ble_eq_true rfl) (by omega) (by omega) (k_X3_settled (d := 5) (by omega) (hm.made gj) (H := (cval (len - stp) stp gn rf)) (fr := x1) (tu := stp) (fun t q1 q2 => htl2 t q1 (by omega)) (by rw [e_x1]; exact row_B hrow) (by omega) (by omega) (by omega) (by omega) (row_M hrow) (fun t ht => cval_per r1 (by omega))) (fun r1 h1 q1 => x_mkret q1 dX3_fromRow_102 rfl (by first | exact Or.inl ⟨_, rfl⟩ | exact Or.inr ⟨_, rfl⟩) (by omega) (by omega) (⟨_, Scr.made hm _, q1⟩))
            · refine x_aload_n 0 dX3_fromRow_69 rfl rfl ?_
              refine x_get 0 dX3_fromRow_70 fl_X3_11 ((hset_ne _ _ (neOJ hm.1 hm.2.1)).trans hm.1) rfl ?_
              refine x_iload 6 dX3_fromRow_73 rfl ?_
              refine x_aload_n 0 dX3_fromRow_75 rfl rfl ?_
              refine x_get 0 dX3_fromRow_76 fl_X3_11 ((hset_ne _ _ (neOJ hm.1 hm.2.1)).trans hm.1) rfl ?_
              refine x_iload 6 dX3_fromRow_79 rfl ?_
              refine x_iload_n 3 dX3_fromRow_81 rfl rfl ?_
              refine x_isub dX3_fromRow_82 (by unfold okI; omega) ?_
              refine x_laload dX3_fromRow_83 (hset_eq _ _ _) (by omega) (by omega) ?_
              refine x_iload 4 dX3_fromRow_84 rfl ?_
              refine x_i2l dX3_fromRow_86 ?_
              have b1 := htl2 (t - stp) (by omega) (by omega)
              rw [row_cval (by omega)] at b1
              have b2 := r7 (t - stp) (by omega) (by omega)
              refine x_ladd dX3_fromRow_87 (by unfold okJ; omega) ?_
              refine x_lastore dX3_fromRow_88 (hset_eq _ _ _) (by omega) (by omega) ?_
              refine x_iinc 6 (L' := [(6, vI (t + 1)), (0, vA m), (1, vA ra), (2, vI len), (3, vI stp), (4, vI gn), (5, vI x1)]) dX3_fromRow_89 rfl (by unfold okI; omega) (Nat.le_of_ble_eq_true rfl) rfl ?_
              refine x_goto 61 dX3_fromRow_92 (by decide) ?_
              exact EX.pick [1, 2, 3, 4, 5, 6, 0] rfl (x_ash (hset_hset _ _ _ _) (ih_61 (t + 1) (va_up gj t.toNat (gj (t - stp).toNat + gn)) (by omega) (by omega) (by omega) (htl2.up (by omega) (by rw [htl2 (t - stp) (by omega) (by omega)]; have := cval_per (T := len - stp) (D := stp) (C := gn) (am := rf) (t := t - stp) r1 (by omega); rw [show t - stp + stp = t by omega] at this; exact this.symm))))
        exact EX.pick [1, 2, 3, 4, 5, 6, 0] rfl (x_ash rfl (loop_61 ((len + stp - (len : Int)).toNat + 1) len gi (Nat.lt_succ_self _) (by omega) (by omega) (fun u q1 q2 => htl u q1 (by omega))))
      · refine x_aload_n 0 dX3_fromRow_41 rfl rfl ?_
        refine x_get 0 dX3_fromRow_42 fl_X3_11 ((hset_ne _ _ (neOJ hm.1 hm.2.1)).trans hm.1) rfl ?_
        refine x_iload 6 dX3_fromRow_45 rfl ?_
        refine x_aload_n 1 dX3_fromRow_47 rfl rfl ?_
        refine x_iload 6 dX3_fromRow_48 rfl ?_
        refine x_laload dX3_fromRow_50 ((hset_ne _ _ hrm).trans hr) (by omega) (by omega) ?_
        refine x_lastore dX3_fromRow_51 (hset_eq _ _ _) (by omega) (by omega) ?_
        refine x_iinc 6 (L' := [(6, vI (t + 1)), (0, vA m), (1, vA ra), (2, vI len), (3, vI stp), (4, vI gn), (5, vI x1)]) dX3_fromRow_52 rfl (by unfold okI; omega) (Nat.le_of_ble_eq_true rfl) rfl ?_
        refine x_goto 35 dX3_fromRow_55 (by decide) ?_
        exact EX.pick [1, 2, 3, 4, 5, 6, 0] rfl (x_ash (hset_hset _ _ _ _) (ih_35 (t + 1) (va_up gi t.toNat (rf t.toNat)) (by omega) (by omega) (by omega) (htl.up ht0 (row_cval (by omega)).symm)))
  exact EX.pick [2, 3, 4, 5, 6, 1, 0] rfl (x_ash (hset_self hm.2.1).symm (loop_35 ((len - (0 : Int)).toNat + 1) 0 g (Nat.lt_succ_self _) (by omega) (by omega) (fun u q1 q2 => by omega)))
set_option maxRecDepth 100000 in
set_option maxHeartbeats 4000000 in
theorem k_X3_fromBoth {G : aG} {d : Nat} (hd : 6 ≤ d) {h : aH} {m md on ot : Nat} {g f1 f2 : Nat → Int} (hm : MakAt h m md on ot g f1 f2) {c1 ci1 a1 : Nat} {T1 D1 C1 ld1 : Int} {am1 : Nat → Int} (hcv1 : CvAt h c1 ci1 a1 T1 D1 C1 am1 ld1) (hok1 : CvOk T1 D1 C1 am1) {c2 ci2 a2 : Nat} {T2 D2 C2 ld2 : Int} {am2 : Nat → Int} (hcv2 : CvAt h c2 ci2 a2 T2 D2 C2 am2 ld2) (hok2 : CvOk T2 D2 C2 am2) (hx1 : a1 ≠ md ∧ a1 ≠ on ∧ a1 ≠ ot) (hx2 : a2 ≠ md ∧ a2 ≠ on ∧ a2 ≠ ot) {w p : Int} (hw0 : 0 ≤ w) (hw5 : w ≤ 5) (hp0 : 1 ≤ p) (hp : p ≤ 60) (hm1 : p % D1 = 0) (hm2 : p % D2 = 0) : MC G mX3_fromBoth d 2 265 [vA m, vI w, vA c1, vA c2, vI p] h (fun r' h' => ∃ h1 : aH, Scr m md on ot h h1 ∧ MkOut h1 ((wayS w (cval T1 D1 C1 am1) (cval T2 D2 C2 am2) (max T1 T2 + p))) (p) ((wayC w (C1 * (p / D1)) (C2 * (p / D2)))) r' h') := by
  obtain ⟨hT01, hT21, hD01, hD61, hC01, hC11, hA1, hM1, hW1⟩ := id hok1
  obtain ⟨hT02, hT22, hD02, hD62, hC02, hC12, hA2, hM2, hW2⟩ := id hok2
  refine MC.of (by decide) (Nat.le_of_ble_eq_true rfl) (fun ok okh => ?_)
  show EX G mX3_fromBoth d 2 265 _ 0 [(0, vA m), (1, vI w), (2, vA c1), (3, vA c2), (4, vI p)] [] h 0 0
  have cut_31 : ∀ (fr : Int), (w = 4 ∧ fr = max 200 (T1 + T2 + p) ∨ w ≠ 4 ∧ fr = 200) → EX G mX3_fromBoth d 2 265 (fun r' h' => ∃ h1 : aH, Scr m md on ot h h1 ∧ MkOut h1 ((wayS w (cval T1 D1 C1 am1) (cval T2 D2 C2 am2) (max T1 T2 + p))) (p) ((wayC w (C1 * (p / D1)) (C2 * (p / D2)))) r' h') 31 [(0, vA m), (1, vI w), (2, vA c1), (3, vA c2), (4, vI p), (5, vI fr)] [] h 0 0 := by
    intro fr hfr
    refine x_iload 5 dX3_fromBoth_31 rfl ?_
    refine x_iconst dX3_fromBoth_33 (okI_c rfl) ?_
    refine x_iload 4 dX3_fromBoth_34 rfl ?_
    refine x_imul dX3_fromBoth_36 (by unfold okI; omega) ?_
    refine x_iadd dX3_fromBoth_37 (by unfold okI; omega) ?_
    refine x_nmI (fun en e_en => ?_)
    refine x_istore (L' := [(6, vI en), (0, vA m), (1, vI w), (2, vA c1), (3, vA c2), (4, vI p), (5, vI fr)]) dX3_fromBoth_38 (Nat.le_of_ble_eq_true rfl) rfl ?_
    refine x_iload 5 dX3_fromBoth_40 rfl ?_
    refine x_iconst dX3_fromBoth_42 (okI_c rfl) ?_
    refine x_icmp_lt 54 dX3_fromBoth_43 (by decide) (fun c_43 => (by exfalso; omega)) (fun c_43 => ?_)
    refine x_iload 0 dX3_fromBoth_46 rfl ?_
    refine x_sipush dX3_fromBoth_48 (okI_c rfl) (by decide +kernel) ?_
    refine x_icmp_le 56 dX3_fromBoth_51 (by decide) (fun c_51 => ?_) (fun c_51 => (by exfalso; omega))
    refine x_aload_n 3 dX3_fromBoth_56 rfl rfl ?_
    refine x_aload_n 1 dX3_fromBoth_57 rfl rfl ?_
    refine x_get 1 dX3_fromBoth_58 fl_X3_15 hm.1 rfl ?_
    refine x_callS [vA c1, vA on] dX3_fromBoth_61 ks_X3_47 rfl rfl (by omega) (Nat.le_of_ble_eq_true rfl) (by omega) (by omega) (k_X3_spread (d := 1) (by omega) hcv1 hok1 hm.2.2.1 hx1.2.1) (fun r1 h1 q1 => ?_)
    obtain ⟨rfl, f1n, rfl, hf1⟩ := q1
    show EX G mX3_fromBoth d 2 265 _ _ _ [] _ _ _
    refine x_aload_n 4 dX3_fromBoth_64 rfl rfl ?_
    refine x_aload_n 1 dX3_fromBoth_65 rfl rfl ?_
    refine x_get 2 dX3_fromBoth_66 fl_X3_18 ((hset_ne _ _ (neOJ hm.1 hm.2.2.1)).trans hm.1) rfl ?_
    refine x_callS [vA c2, vA ot] dX3_fromBoth_69 ks_X3_47 rfl rfl (by omega) (Nat.le_of_ble_eq_true rfl) (by omega) (by omega) (k_X3_spread (d := 1) (by omega) (hcv2.keep (neOJ hcv2.1 hm.2.2.1) hx2.2.1) hok2 ((hset_ne _ _ (by have := hm.2.2.2.2; omega)).trans hm.2.2.2.1) hx2.2.2) (fun r1 h1 q1 => ?_)
    obtain ⟨rfl, f2n, rfl, hf2⟩ := q1
    show EX G mX3_fromBoth d 2 265 _ _ _ [] _ _ _
    have cut_179 : ∀ (g' : Nat → Int), Tells g' (wayS w (cval T1 D1 C1 am1) (cval T2 D2 C2 am2) (max T1 T2 + p)) (fr + 2 * p) → EX G mX3_fromBoth d 2 265 (fun r' h' => ∃ h1 : aH, Scr m md on ot h h1 ∧ MkOut h1 ((wayS w (cval T1 D1 C1 am1) (cval T2 D2 C2 am2) (max T1 T2 + p))) (p) ((wayC w (C1 * (p / D1)) (C2 * (p / D2)))) r' h') 179 [(0, vA m), (1, vI w), (2, vA c1), (3, vA c2), (4, vI p), (5, vI fr)] [] (hset (hset (hset h on (eJ 600 f1n)) ot (eJ 600 f2n)) md (eJ 600 g')) 0 0 := by
      intro g' hl
      have hga := gain_b hC01 hC11 hD01 (show 0 ≤ p by omega) hp
      have hgb := gain_b hC02 hC12 hD02 (show 0 ≤ p by omega) hp
      have hgc := wayC_b (w := w) hga.1 hgb.1 hga.2 hgb.2
      have hBW : Bnd (wayS w (cval T1 D1 C1 am1) (cval T2 D2 C2 am2) (max T1 T2 + p)) (fr + 2 * p) 4000000000000000 := fun t q1 q2 => by
        have := way_bnd (k := fr + 2 * p) (n := (max T1 T2 + p)) (cval_bnd4 hok1 (by omega)) (cval_bnd4 hok2 (by omega)) (cval_M hok1) (cval_M hok2) (by omega) (by omega) (by omega) w t q1 q2
        omega
      refine x_aload_n 0 dX3_fromBoth_179 rfl rfl ?_
      refine x_iload 5 dX3_fromBoth_180 rfl ?_
      refine x_iload 4 dX3_fromBoth_182 rfl ?_
      refine x_iload_n 1 dX3_fromBoth_184 rfl rfl ?_
      refine x_aload_n 2 dX3_fromBoth_185 rfl rfl ?_
      refine x_iload 4 dX3_fromBoth_186 rfl ?_
      refine x_callU [vI p] dX3_fromBoth_188 (ku_X3_66 _ hcv1.2.2) rfl rfl ((hset_ne _ _ (neOJ hcv1.1 hm.2.1)).trans ((hset_ne _ _ (neOJ hcv1.1 hm.2.2.2.1)).trans ((hset_ne _ _ (neOJ hcv1.1 hm.2.2.1)).trans hcv1.1))) (by omega) (Nat.le_of_ble_eq_true rfl) (by omega) (by omega) (k_X1_gainIn (d := 0) (((hcv1.keep (neOJ hcv1.1 hm.2.2.1) hx1.2.1).keep (neOJ hcv1.1 hm.2.2.2.1) hx1.2.2).keep (neOJ hcv1.1 hm.2.1) hx1.1) hok1 (p := p) (by omega) (by omega)) (after_ret ?_)
      refine x_aload_n 3 dX3_fromBoth_191 rfl rfl ?_
      refine x_iload 4 dX3_fromBoth_192 rfl ?_
      refine x_callU [vI p] dX3_fromBoth_194 (ku_X3_66 _ hcv2.2.2) rfl rfl ((hset_ne _ _ (neOJ hcv2.1 hm.2.1)).trans ((hset_ne _ _ (neOJ hcv2.1 hm.2.2.2.1)).trans ((hset_ne _ _ (neOJ hcv2.1 hm.2.2.1)).trans hcv2.1))) (by omega) (Nat.le_of_ble_eq_true rfl) (by omega) (by omega) (k_X1_gainIn (d := 0) (((hcv2.keep (neOJ hcv2.1 hm.2.2.1) hx2.2.1).keep (neOJ hcv2.1 hm.2.2.2.1) hx2.2.2).keep (neOJ hcv2.1 hm.2.1) hx2.1) hok2 (p := p) (by omega) (by omega)) (after_ret ?_)
      refine x_callS [vI w, vJ (C1 * (p / D1)), vJ (C2 * (p / D2))] dX3_fromBoth_197 ks_X3_69 rfl rfl (by omega) (Nat.le_of_ble_eq_true rfl) (by omega) (by omega) (k_X3_gainOf (d := 1) (by omega) (w := w) hga.1 (by omega) hgb.1 (by omega)) (after_ret ?_)
      refine x_callV [vI fr, vI p, vJ ((wayC w (C1 * (p / D1)) (C2 * (p / D2))))] dX3_fromBoth_200 kv_X3_73 rfl rfl ((hset_ne _ _ (neOJ hm.1 hm.2.1)).trans ((hset_ne _ _ (neOJ hm.1 hm.2.2.2.1)).trans ((hset_ne _ _ (neOJ hm.1 hm.2.2.1)).trans hm.1))) (by omega) (Nat.le_of_ble_eq_true rfl) (by omega) (by omega) (k_X3_comesRound (d := 1) (by omega) ((hm.three f1n f2n).made g') (H := (wayS w (cval T1 D1 C1 am1) (cval T2 D2 C2 am2) (max T1 T2 + p))) (fr := fr) (tu := p) hl hBW (by omega) (by omega) (by omega) hgc.1 (by omega)) (after_ret ?_)
      refine x_if_ne 208 dX3_fromBoth_203 (by decide) (fun c_203 => ?_) (fun c_203 => ?_)
      · refine x_aload_n 0 dX3_fromBoth_208 rfl rfl ?_
        refine x_iload 5 dX3_fromBoth_209 rfl ?_
        refine x_iload 4 dX3_fromBoth_211 rfl ?_
        refine x_callV [vI fr, vI p] dX3_fromBoth_213 kv_X3_21 rfl rfl ((hset_ne _ _ (neOJ hm.1 hm.2.1)).trans ((hset_ne _ _ (neOJ hm.1 hm.2.2.2.1)).trans ((hset_ne _ _ (neOJ hm.1 hm.2.2.1)).trans hm.1))) (by omega) (Nat.le_of_ble_eq_true rfl) (by omega) (by omega) (k_X3_settled (d := 5) (by omega) ((hm.three f1n f2n).made g') (H := (wayS w (cval T1 D1 C1 am1) (cval T2 D2 C2 am2) (max T1 T2 + p))) (fr := fr) (tu := p) hl hBW (by omega) (by omega) (by omega) (by omega) (way_mono (cval_M hok1) (cval_M hok2) w _) (way_turn hw0 hw5 hT01 hT02 (by omega) (by omega) (by omega) hp0 hga.1 (cval_Per hD01 (by omega) hm1) (cval_Per hD02 (by omega) hm2) (b2i_ne c_203))) (fun r1 h1 q1 => x_mkret q1 dX3_fromBoth_216 rfl (by first | exact Or.inl ⟨_, rfl⟩ | exact Or.inr ⟨_, rfl⟩) (by omega) (by omega) (⟨_, Scr.three hm _ _ _, q1⟩))
      · refine x_null dX3_fromBoth_206 ?_
        exact x_areturn (r := none) dX3_fromBoth_207 rfl (by first | exact Or.inl ⟨_, rfl⟩ | exact Or.inr ⟨_, rfl⟩) (by omega) (by omega) ⟨_, Scr.three hm f1n f2n g', Or.inl ⟨rfl, rfl, fun q => absurd (fun t q1 _ => q t (by omega)) (b2i_eq c_203)⟩⟩
    have hen : fr + 2 * p ≤ 600 := by omega
    refine x_iload_n 2 dX3_fromBoth_72 rfl rfl ?_
    rcases (show w = 0 ∨ w = 1 ∨ w = 2 ∨ w = 3 ∨ w = 4 ∨ w = 5 ∨ (w < 0 ∨ 5 < w) by omega) with cs | cs | cs | cs | cs | cs | cs
    · refine x_tableIn 112 dX3_fromBoth_73 (by omega) (by omega) (by rw [cs]; rfl) (by decide) ?_
      refine x_aload_n 1 dX3_fromBoth_112 rfl rfl ?_
      refine x_iload_n 2 dX3_fromBoth_113 rfl rfl ?_
      refine x_iload 0 dX3_fromBoth_114 rfl ?_
      refine x_callV [vI w, vI en] dX3_fromBoth_116 kv_X3_51 rfl rfl ((hset_ne _ _ (neOJ hm.1 hm.2.2.2.1)).trans ((hset_ne _ _ (neOJ hm.1 hm.2.2.1)).trans hm.1)) (by omega) (Nat.le_of_ble_eq_true rfl) (by omega) (by omega) (k_X3_side (d := 1) (by omega) (hm.three f1n f2n) hf1 hf2 (fun t q1 q2 => cval_bnd4 hok1 (show (600 : Int) ≤ 3000 by omega) t q1 q2) (fun t q1 q2 => cval_bnd4 hok2 (show (600 : Int) ≤ 3000 by omega) t q1 q2) (w := w) (e := en) (by omega) (by omega)) (fun r1 h1 q1 => ?_)
      obtain ⟨rfl, g', rfl, hl⟩ := q1
      show EX G mX3_fromBoth d 2 265 _ _ _ [] _ _ _
      have hl : Tells g' (wayS w (cval T1 D1 C1 am1) (cval T2 D2 C2 am2) (max T1 T2 + p)) (fr + 2 * p) := fun t q1 q2 => by rw [hl t q1 (by omega), wayS, if_pos (by omega)]
      refine x_goto 179 dX3_fromBoth_119 (by decide) ?_
      exact EX.pick [1, 2, 3, 4, 5, 6] rfl (cut_179  g' hl)
    · refine x_tableIn 112 dX3_fromBoth_73 (by omega) (by omega) (by rw [cs]; rfl) (by decide) ?_
      refine x_aload_n 1 dX3_fromBoth_112 rfl rfl ?_
      refine x_iload_n 2 dX3_fromBoth_113 rfl rfl ?_
      refine x_iload 0 dX3_fromBoth_114 rfl ?_
      refine x_callV [vI w, vI en] dX3_fromBoth_116 kv_X3_51 rfl rfl ((hset_ne _ _ (neOJ hm.1 hm.2.2.2.1)).trans ((hset_ne _ _ (neOJ hm.1 hm.2.2.1)).trans hm.1)) (by omega) (Nat.le_of_ble_eq_true rfl) (by omega) (by omega) (k_X3_side (d := 1) (by omega) (hm.three f1n f2n) hf1 hf2 (fun t q1 q2 => cval_bnd4 hok1 (show (600 : Int) ≤ 3000 by omega) t q1 q2) (fun t q1 q2 => cval_bnd4 hok2 (show (600 : Int) ≤ 3000 by omega) t q1 q2) (w := w) (e := en) (by omega) (by omega)) (fun r1 h1 q1 => ?_)
      obtain ⟨rfl, g', rfl, hl⟩ := q1
      show EX G mX3_fromBoth d 2 265 _ _ _ [] _ _ _
      have hl : Tells g' (wayS w (cval T1 D1 C1 am1) (cval T2 D2 C2 am2) (max T1 T2 + p)) (fr + 2 * p) := fun t q1 q2 => by rw [hl t q1 (by omega), wayS, if_pos (by omega)]
      refine x_goto 179 dX3_fromBoth_119 (by decide) ?_
      exact EX.pick [1, 2, 3, 4, 5, 6] rfl (cut_179  g' hl)
    · refine x_tableIn 112 dX3_fromBoth_73 (by omega) (by omega) (by rw [cs]; rfl) (by decide) ?_
      refine x_aload_n 1 dX3_fromBoth_112 rfl rfl ?_
      refine x_iload_n 2 dX3_fromBoth_113 rfl rfl ?_
      refine x_iload 0 dX3_fromBoth_114 rfl ?_
      refine x_callV [vI w, vI en] dX3_fromBoth_116 kv_X3_51 rfl rfl ((hset_ne _ _ (neOJ hm.1 hm.2.2.2.1)).trans ((hset_ne _ _ (neOJ hm.1 hm.2.2.1)).trans hm.1)) (by omega) (Nat.le_of_ble_eq_true rfl) (by omega) (by omega) (k_X3_side (d := 1) (by omega) (hm.three f1n f2n) hf1 hf2 (fun t q1 q2 => cval_bnd4 hok1 (show (600 : Int) ≤ 3000 by omega) t q1 q2) (fun t q1 q2 => cval_bnd4 hok2 (show (600 : Int) ≤ 3000 by omega) t q1 q2) (w := w) (e := en) (by omega) (by omega)) (fun r1 h1 q1 => ?_)
      obtain ⟨rfl, g', rfl, hl⟩ := q1
      show EX G mX3_fromBoth d 2 265 _ _ _ [] _ _ _
      have hl : Tells g' (wayS w (cval T1 D1 C1 am1) (cval T2 D2 C2 am2) (max T1 T2 + p)) (fr + 2 * p) := fun t q1 q2 => by rw [hl t q1 (by omega), wayS, if_pos (by omega)]
      refine x_goto 179 dX3_fromBoth_119 (by decide) ?_
      exact EX.pick [1, 2, 3, 4, 5, 6] rfl (cut_179  g' hl)
    · refine x_tableIn 122 dX3_fromBoth_73 (by omega) (by omega) (by rw [cs]; rfl) (by decide) ?_
      refine x_aload_n 1 dX3_fromBoth_122 rfl rfl ?_
      refine x_iload 0 dX3_fromBoth_123 rfl ?_
      refine x_callV [vI en] dX3_fromBoth_125 kv_X3_55 rfl rfl ((hset_ne _ _ (neOJ hm.1 hm.2.2.2.1)).trans ((hset_ne _ _ (neOJ hm.1 hm.2.2.1)).trans hm.1)) (by omega) (Nat.le_of_ble_eq_true rfl) (by omega) (by omega) (k_X3_rest (d := 1) (by omega) (hm.three f1n f2n) hf1 hf2 (fun t q1 q2 => cval_bnd4 hok1 (show (600 : Int) ≤ 3000 by omega) t q1 q2) (fun t q1 q2 => cval_bnd4 hok2 (show (600 : Int) ≤ 3000 by omega) t q1 q2) (e := en) (by omega) (by omega)) (fun r1 h1 q1 => ?_)
      obtain ⟨rfl, g', rfl, hl⟩ := q1
      show EX G mX3_fromBoth d 2 265 _ _ _ [] _ _ _
      have hl : Tells g' (wayS w (cval T1 D1 C1 am1) (cval T2 D2 C2 am2) (max T1 T2 + p)) (fr + 2 * p) := fun t q1 q2 => by rw [hl t q1 (by omega), wayS, if_neg (by omega), if_pos (by omega)]
      refine x_goto 179 dX3_fromBoth_128 (by decide) ?_
      exact EX.pick [1, 2, 3, 4, 5, 6] rfl (cut_179  g' hl)
    · refine x_tableIn 131 dX3_fromBoth_73 (by omega) (by omega) (by rw [cs]; rfl) (by decide) ?_
      refine x_aload_n 1 dX3_fromBoth_131 rfl rfl ?_
      refine x_iload 0 dX3_fromBoth_132 rfl ?_
      refine x_aload_n 3 dX3_fromBoth_134 rfl rfl ?_
      refine x_get 0 dX3_fromBoth_135 (fl_X3_25 _ hcv1.2.2) ((hset_ne _ _ (neOJ hcv1.1 hm.2.2.2.1)).trans ((hset_ne _ _ (neOJ hcv1.1 hm.2.2.1)).trans hcv1.1)) rfl ?_
      refine x_iload 5 dX3_fromBoth_138 rfl ?_
      refine x_iadd dX3_fromBoth_140 (by unfold okI; omega) ?_
      refine x_aload_n 4 dX3_fromBoth_141 rfl rfl ?_
      refine x_get 0 dX3_fromBoth_142 (fl_X3_25 _ hcv2.2.2) ((hset_ne _ _ (neOJ hcv2.1 hm.2.2.2.1)).trans ((hset_ne _ _ (neOJ hcv2.1 hm.2.2.1)).trans hcv2.1)) rfl ?_
      refine x_iload 5 dX3_fromBoth_145 rfl ?_
      refine x_iadd dX3_fromBoth_147 (by unfold okI; omega) ?_
      refine x_callV [vI en, vI (T1 + p), vI (T2 + p)] dX3_fromBoth_148 kv_X3_59 rfl rfl ((hset_ne _ _ (neOJ hm.1 hm.2.2.2.1)).trans ((hset_ne _ _ (neOJ hm.1 hm.2.2.1)).trans hm.1)) (by omega) (Nat.le_of_ble_eq_true rfl) (by omega) (by omega) (k_X3_both (d := 2) (by omega) (hm.three f1n f2n) hf1 hf2 (fun t q1 q2 => cval_bnd4 hok1 (show (600 : Int) ≤ 3000 by omega) t q1 q2) (fun t q1 q2 => cval_bnd4 hok2 (show (600 : Int) ≤ 3000 by omega) t q1 q2) (e := en) (by omega) (by omega) (n1 := T1 + p) (n2 := T2 + p) (by omega) (by omega) (by omega) (by omega) (both_near hp0 hT01 hT02 (cval_Per hD01 (by omega) hm1) (cval_Per hD02 (by omega) hm2))) (fun r1 h1 q1 => ?_)
      obtain ⟨rfl, g', rfl, hl⟩ := q1
      show EX G mX3_fromBoth d 2 265 _ _ _ [] _ _ _
      have hl : Tells g' (wayS w (cval T1 D1 C1 am1) (cval T2 D2 C2 am2) (max T1 T2 + p)) (fr + 2 * p) := fun t q1 q2 => by rw [hl t q1 (by omega), wayS, if_neg (by omega), if_neg (by omega), if_pos (by omega)]
      refine x_goto 179 dX3_fromBoth_151 (by decide) ?_
      exact EX.pick [1, 2, 3, 4, 5, 6] rfl (cut_179  g' hl)
    · refine x_tableIn 154 dX3_fromBoth_73 (by omega) (by omega) (by rw [cs]; rfl) (by decide) ?_
      refine x_aload_n 1 dX3_fromBoth_154 rfl rfl ?_
      refine x_iload 0 dX3_fromBoth_155 rfl ?_
      refine x_aload_n 3 dX3_fromBoth_157 rfl rfl ?_
      refine x_get 0 dX3_fromBoth_158 (fl_X3_25 _ hcv1.2.2) ((hset_ne _ _ (neOJ hcv1.1 hm.2.2.2.1)).trans ((hset_ne _ _ (neOJ hcv1.1 hm.2.2.1)).trans hcv1.1)) rfl ?_
      refine x_aload_n 4 dX3_fromBoth_161 rfl rfl ?_
      refine x_get 0 dX3_fromBoth_162 (fl_X3_25 _ hcv2.2.2) ((hset_ne _ _ (neOJ hcv2.1 hm.2.2.2.1)).trans ((hset_ne _ _ (neOJ hcv2.1 hm.2.2.1)).trans hcv2.1)) rfl ?_
      refine x_maxI dX3_fromBoth_165 km_X3_44 (by omega) (Nat.le_of_ble_eq_true rfl) (by omega) (by omega) ?_
      refine x_iload 5 dX3_fromBoth_168 rfl ?_
      refine x_iadd dX3_fromBoth_170 (by unfold okI; omega) ?_
      refine x_callV [vI en, vI ((max T1 T2) + p)] dX3_fromBoth_171 kv_X3_63 rfl rfl ((hset_ne _ _ (neOJ hm.1 hm.2.2.2.1)).trans ((hset_ne _ _ (neOJ hm.1 hm.2.2.1)).trans hm.1)) (by omega) (Nat.le_of_ble_eq_true rfl) (by omega) (by omega) (k_X3_off (d := 1) (by omega) (hm.three f1n f2n) hf1 hf2 (fun t q1 q2 => cval_bnd4 hok1 (show (600 : Int) ≤ 3000 by omega) t q1 q2) (fun t q1 q2 => cval_bnd4 hok2 (show (600 : Int) ≤ 3000 by omega) t q1 q2) (e := en) (by omega) (by omega) (n := max T1 T2 + p) (by omega) (by omega)) (fun r1 h1 q1 => ?_)
      obtain ⟨rfl, g', rfl, hl⟩ := q1
      show EX G mX3_fromBoth d 2 265 _ _ _ [] _ _ _
      have hl : Tells g' (wayS w (cval T1 D1 C1 am1) (cval T2 D2 C2 am2) (max T1 T2 + p)) (fr + 2 * p) := fun t q1 q2 => by rw [hl t q1 (by omega), wayS, if_neg (by omega), if_neg (by omega), if_neg (by omega)]
      refine x_goto 179 dX3_fromBoth_174 (by decide) ?_
      exact EX.pick [1, 2, 3, 4, 5, 6] rfl (cut_179  g' hl)
    · exfalso; omega
  refine x_iload_n 1 dX3_fromBoth_0 rfl rfl ?_
  refine x_iconst dX3_fromBoth_1 (okI_c rfl) ?_
  refine x_icmp_ne 26 dX3_fromBoth_2 (by decide) (fun c_2 => ?_) (fun c_2 => ?_)
  · refine x_sipush dX3_fromBoth_26 (okI_c rfl) (by decide +kernel) ?_
    refine x_istore (L' := [(5, vI 200), (0, vA m), (1, vI w), (2, vA c1), (3, vA c2), (4, vI p)]) dX3_fromBoth_29 (Nat.le_of_ble_eq_true rfl) rfl ?_
    exact EX.pick [1, 2, 3, 4, 5, 0] rfl (cut_31 200 (by omega))
  · refine x_sipush dX3_fromBoth_5 (okI_c rfl) (by decide +kernel) ?_
    refine x_aload_n 2 dX3_fromBoth_8 rfl rfl ?_
    refine x_get 0 dX3_fromBoth_9 (fl_X3_25 _ hcv1.2.2) hcv1.1 rfl ?_
    refine x_aload_n 3 dX3_fromBoth_12 rfl rfl ?_
    refine x_get 0 dX3_fromBoth_13 (fl_X3_25 _ hcv2.2.2) hcv2.1 rfl ?_
    refine x_iadd dX3_fromBoth_16 (by unfold okI; omega) ?_
    refine x_iload 4 dX3_fromBoth_17 rfl ?_
    refine x_iadd dX3_fromBoth_19 (by unfold okI; omega) ?_
    refine x_maxI dX3_fromBoth_20 km_X3_44 (by omega) (Nat.le_of_ble_eq_true rfl) (by omega) (by omega) ?_
    refine x_goto 29 dX3_fromBoth_23 (by decide) ?_
    refine x_nmI (fun x1 e_x1 => ?_)
    refine x_istore (L' := [(5, vI x1), (0, vA m), (1, vI w), (2, vA c1), (3, vA c2), (4, vI p)]) dX3_fromBoth_29 (Nat.le_of_ble_eq_true rfl) rfl ?_
    exact EX.pick [1, 2, 3, 4, 5, 0] rfl (cut_31 x1 (by omega))
