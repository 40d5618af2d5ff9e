/-! ===== Maker: the rows of amounts ===== -/
def MakAt (h : aH) (m md on ot : Nat) (g f1 f2 : Nat → Int) : Prop := h m = some (eO 3 [vA md, vA on, vA ot]) ∧ h md = some (eJ 600 g) ∧ h on = some (eJ 600 f1) ∧ h ot = some (eJ 600 f2) ∧ md < on ∧ on < ot
/-- an array tells a sequence's amounts -/
def Tells (f : Nat → Int) (F : Int → Int) (n : Int) : Prop := ∀ t : Int, 0 ≤ t → t < n → f t.toNat = F t
def Bnd (F : Int → Int) (n B : Int) : Prop := ∀ t : Int, 0 ≤ t → t < n → 0 ≤ F t ∧ F t ≤ B
theorem hset_self {h : aH} {a : Nat} {e : aE} (k : h a = some e) : hset h a e = h := by
  funext b; by_cases hb : b = a
  · subst hb; rw [hset_eq, k]
  · rw [hset_ne _ _ hb]
theorem MakAt.made {h : aH} {m md on ot : Nat} {g f1 f2 : Nat → Int} (k : MakAt h m md on ot g f1 f2) (g' : Nat → Int) : MakAt (hset h md (eJ 600 g')) m md on ot g' f1 f2 := by
  obtain ⟨k1, k2, k3, k4, k5, k6⟩ := k
  exact ⟨(hset_ne _ _ (neOJ k1 k2)).trans k1, hset_eq _ _ _, (hset_ne _ _ (by omega)).trans k3, (hset_ne _ _ (by omega)).trans k4, k5, k6⟩
theorem Tells.up {f : Nat → Int} {F : Int → Int} {t x : Int} (h : Tells f F t) (ht : 0 ≤ t) (hx : x = F t) : Tells (va_up f t.toNat x) F (t + 1) := by
  intro u h0 h1
  by_cases e : u = t
  · subst e; rw [va_up_self, hx]
  · rw [va_up_ne _ _ (by omega)]; exact h u h0 (by omega)
/-- of two sequences, side by side -/
def sideS (way : Int) (F G : Int → Int) (t : Int) : Int := if way = 0 then F t + G t else if way = 1 then min (F t) (G t) else max (F t) (G t)
def restS (F G : Int → Int) (t : Int) : Int := sup0 (fun s => F s - G s) (t + 1).toNat
def bothS (F G : Int → Int) (t : Int) : Int := minS (fun s => F s + G (t - s)) (F 0 + G t) (t + 1).toNat
def offS (F G : Int → Int) (n : Int) (t : Int) : Int := sup0 (fun u => F (t + u) - G u) n.toNat
theorem both_eq {F G : Int → Int} {t w : Int} (ht : 0 ≤ t) (h1 : ∃ s : Int, 0 ≤ s ∧ s ≤ t ∧ w = F s + G (t - s)) (h2 : ∀ s : Int, 0 ≤ s → s ≤ t → w ≤ F s + G (t - s)) : w = bothS F G t := by
  apply Int.le_antisymm
  · refine minS_ge ?_ fun s q1 q2 => h2 s q1 (by omega)
    have := h2 0 (Int.le_refl 0) ht
    rw [Int.sub_zero] at this; exact this
  · obtain ⟨s, q1, q2, q3⟩ := h1
    rw [q3]
    exact minS_le_at (f := fun s => F s + G (t - s)) q1 (by omega)
set_option maxRecDepth 100000 in
set_option maxHeartbeats 4000000 in
theorem k_X3_gainOf {G : aG} {d : Nat} (hd : 1 ≤ d) {h : aH} {w a b : Int} (ha0 : 0 ≤ a) (ha : a ≤ 100000000000) (hb0 : 0 ≤ b) (hb : b ≤ 100000000000) : MC G mX3_gainOf d 0 0 [vI w, vJ a, vJ b] h (Ret (vJ (if w = 0 then a + b else if w = 2 then max a b else if w = 3 then max 0 (a - b) else if w = 5 then a else min a b)) h) := by
  refine MC.of (by decide) (Nat.le_of_ble_eq_true rfl) (fun ok okh => ?_)
  show EX G mX3_gainOf d 0 0 _ 0 [(0, vI w), (1, vJ a), (3, vJ b)] [] h 0 0
  refine x_iload_n 0 dX3_gainOf_0 rfl rfl ?_
  rcases (show w = 0 ∨ w = 1 ∨ w = 2 ∨ w = 3 ∨ w = 4 ∨ w = 5 ∨ (w < 0 ∨ 5 < w) by omega) with cs | cs | cs | cs | cs | cs | cs
  · refine x_tableIn 40 dX3_gainOf_1 (by omega) (by omega) (by rw [cs]; rfl) (by decide) ?_
    refine x_lload_n 1 dX3_gainOf_40 rfl rfl ?_
    refine x_lload_n 2 dX3_gainOf_41 rfl rfl ?_
    refine x_ladd dX3_gainOf_42 (by unfold okJ; omega) ?_
    exact x_lreturn dX3_gainOf_43 rfl (by decide) (by decide) (retJ (by simp [cs]))
  · refine x_tableIn 60 dX3_gainOf_1 (by omega) (by omega) (by rw [cs]; rfl) (by decide) ?_
    refine x_lload_n 1 dX3_gainOf_60 rfl rfl ?_
    refine x_lload_n 2 dX3_gainOf_61 rfl rfl ?_
    refine x_minJ dX3_gainOf_62 km_X3_80 (by omega) (Nat.le_of_ble_eq_true rfl) (by omega) (by omega) ?_
    exact x_lreturn dX3_gainOf_65 rfl (by decide) (by decide) (retJ (by rw [if_neg (by omega), if_neg (by omega), if_neg (by omega), if_neg (by omega)]))
  · refine x_tableIn 44 dX3_gainOf_1 (by omega) (by omega) (by rw [cs]; rfl) (by decide) ?_
    refine x_lload_n 1 dX3_gainOf_44 rfl rfl ?_
    refine x_lload_n 2 dX3_gainOf_45 rfl rfl ?_
    refine x_maxJ dX3_gainOf_46 km_X3_77 (by omega) (Nat.le_of_ble_eq_true rfl) (by omega) (by omega) ?_
    exact x_lreturn dX3_gainOf_49 rfl (by decide) (by decide) (retJ (by simp [cs]))
  · refine x_tableIn 50 dX3_gainOf_1 (by omega) (by omega) (by rw [cs]; rfl) (by decide) ?_
    refine x_lconst (x := 0) dX3_gainOf_50 (okJ_c rfl) rfl ?_
    refine x_lload_n 1 dX3_gainOf_51 rfl rfl ?_
    refine x_lload_n 2 dX3_gainOf_52 rfl rfl ?_
    refine x_lsub dX3_gainOf_53 (by unfold okJ; omega) ?_
    refine x_maxJ dX3_gainOf_54 km_X3_77 (by omega) (Nat.le_of_ble_eq_true rfl) (by omega) (by omega) ?_
    exact x_lreturn dX3_gainOf_57 rfl (by decide) (by decide) (retJ (by simp [cs]))
  · refine x_tableIn 60 dX3_gainOf_1 (by omega) (by omega) (by rw [cs]; rfl) (by decide) ?_
    refine x_lload_n 1 dX3_gainOf_60 rfl rfl ?_
    refine x_lload_n 2 dX3_gainOf_61 rfl rfl ?_
    refine x_minJ dX3_gainOf_62 km_X3_80 (by omega) (Nat.le_of_ble_eq_true rfl) (by omega) (by omega) ?_
    exact x_lreturn dX3_gainOf_65 rfl (by decide) (by decide) (retJ (by rw [if_neg (by omega), if_neg (by omega), if_neg (by omega), if_neg (by omega)]))
  · refine x_tableIn 58 dX3_gainOf_1 (by omega) (by omega) (by rw [cs]; rfl) (by decide) ?_
    refine x_lload_n 1 dX3_gainOf_58 rfl rfl ?_
    exact x_lreturn dX3_gainOf_59 rfl (by decide) (by decide) (retJ (by simp [cs]))
  · refine x_tableOut 60 dX3_gainOf_1 cs (by decide) ?_
    refine x_lload_n 1 dX3_gainOf_60 rfl rfl ?_
    refine x_lload_n 2 dX3_gainOf_61 rfl rfl ?_
    refine x_minJ dX3_gainOf_62 km_X3_80 (by omega) (Nat.le_of_ble_eq_true rfl) (by omega) (by omega) ?_
    exact x_lreturn dX3_gainOf_65 rfl (by decide) (by decide) (retJ (by rw [if_neg (by omega), if_neg (by omega), if_neg (by omega), if_neg (by omega)]))
set_option maxRecDepth 100000 in
set_option maxHeartbeats 4000000 in
theorem k_X3_spread {G : aG} {d : Nat} (hd : 1 ≤ d) {h : aH} {c ci a : Nat} {T D C ld : Int} {am : Nat → Int} (hcv : CvAt h c ci a T D C am ld) (hok : CvOk T D C am) {x : Nat} {f : Nat → Int} (hx : h x = some (eJ 600 f)) (hax : a ≠ x) : MC G mX3_spread d 0 0 [vA c, vA x] h (fun r' h' => r' = none ∧ ∃ f' : Nat → Int, h' = hset h x (eJ 600 f') ∧ Tells f' (cval T D C am) 600) := by
  obtain ⟨hT0, hT2, hD0, hD6, hC0, hC1, hA, hM, hW⟩ := id hok
  refine MC.of (by decide) (Nat.le_of_ble_eq_true rfl) (fun ok okh => ?_)
  show EX G mX3_spread d 0 0 _ 0 [(0, vA c), (1, vA x)] [] h 0 0
  refine x_iconst dX3_spread_0 (okI_c rfl) ?_
  refine x_istore_n (L' := [(2, vI 0), (0, vA c), (1, vA x)]) dX3_spread_1 rfl (Nat.le_of_ble_eq_true rfl) rfl ?_
  have loop_2 : ∀ (k_2 : Nat) (t : Int) (fi : Nat → Int), (600 - t).toNat < k_2 → 0 ≤ t → t ≤ 600 → Tells fi (cval T D C am) t → EX G mX3_spread d 0 0 (fun r' h' => r' = none ∧ ∃ f' : Nat → Int, h' = hset h x (eJ 600 f') ∧ Tells f' (cval T D C am) 600) 2 [(0, vA c), (1, vA x), (2, vI t)] [] (hset h x (eJ 600 fi)) 0 0 := by
    intro k_2
    induction k_2 with
    | zero => intro t fi hm; exact absurd hm (Nat.not_lt_zero _)
    | succ k_2 ih_2 =>
      intro t fi hm_2 ht0 ht1 htl
      refine x_iload_n 2 dX3_spread_2 rfl rfl ?_
      refine x_aload_n 1 dX3_spread_3 rfl rfl ?_
      refine x_alenJ dX3_spread_4 (hset_eq _ _ _) (by omega) ?_
      refine x_icmp_ge 22 dX3_spread_5 (by decide) (fun c_5 => ?_) (fun c_5 => ?_)
      · exact x_return dX3_spread_22 rfl (by decide) (by decide) ⟨rfl, fi, rfl, fun u q1 q2 => htl u q1 (by omega)⟩
      · refine x_aload_n 1 dX3_spread_8 rfl rfl ?_
        refine x_iload_n 2 dX3_spread_9 rfl rfl ?_
        refine x_aload_n 0 dX3_spread_10 rfl rfl ?_
        refine x_iload_n 2 dX3_spread_11 rfl rfl ?_
        refine x_callU [vI t] dX3_spread_12 (ku_X3_40 _ hcv.2.2) rfl rfl ((hset_ne _ _ (neOJ hcv.1 hx)).trans hcv.1) (by omega) (Nat.le_of_ble_eq_true rfl) (by omega) (by omega) (k_X1_amount (d := 0) (hcv.keep (neOJ hcv.1 hx) hax) hok (t := t) ht0) (after_ret ?_)
        refine x_lastore dX3_spread_15 (hset_eq _ _ _) (by omega) (by omega) ?_
        refine x_iinc 2 (L' := [(2, vI (t + 1)), (0, vA c), (1, vA x)]) dX3_spread_16 rfl (by unfold okI; omega) (Nat.le_of_ble_eq_true rfl) rfl ?_
        refine x_goto 2 dX3_spread_19 (by decide) ?_
        exact EX.pick [1, 2, 0] rfl (x_ash (hset_hset _ _ _ _) (ih_2 (t + 1) (va_up fi t.toNat (cval T D C am t)) (by omega) (by omega) (by omega) (htl.up ht0 rfl)))
  exact EX.pick [1, 2, 0] rfl (x_ash (hset_self hx).symm (loop_2 ((600 - (0 : Int)).toNat + 1) 0 f (Nat.lt_succ_self _) (by omega) (by omega) (fun u q1 q2 => by omega)))
set_option maxRecDepth 100000 in
set_option maxHeartbeats 4000000 in
theorem k_X3_side {G : aG} {d : Nat} (hd : 1 ≤ d) {h : aH} {m md on ot : Nat} {g f1 f2 : Nat → Int} (hm : MakAt h m md on ot g f1 f2) {F G' : Int → Int} (hF : Tells f1 F 600) (hG : Tells f2 G' 600) (bF : Bnd F 600 4000000000000) (bG : Bnd G' 600 4000000000000) {w : Int} {e : Int} (he0 : 0 ≤ e) (he : e ≤ 600) : MC G mX3_laySideBySide d 0 0 [vA m, vI w, vI e] h (fun r' h' => r' = none ∧ ∃ g' : Nat → Int, h' = hset h md (eJ 600 g') ∧ Tells g' (sideS w F G') e) := by
  refine MC.of (by decide) (Nat.le_of_ble_eq_true rfl) (fun ok okh => ?_)
  show EX G mX3_laySideBySide d 0 0 _ 0 [(0, vA m), (1, vI w), (2, vI e)] [] h 0 0
  refine x_iconst dX3_laySideBySide_0 (okI_c rfl) ?_
  refine x_istore_n (L' := [(3, vI 0), (0, vA m), (1, vI w), (2, vI e)]) dX3_laySideBySide_1 rfl (Nat.le_of_ble_eq_true rfl) rfl ?_
  have loop_2 : ∀ (k_2 : Nat) (t : Int) (gi : Nat → Int), (e - t).toNat < k_2 → 0 ≤ t → t ≤ e → Tells gi (sideS w F G') t → EX G mX3_laySideBySide d 0 0 (fun r' h' => r' = none ∧ ∃ g' : Nat → Int, h' = hset h md (eJ 600 g') ∧ Tells g' (sideS w F G') e) 2 [(0, vA m), (1, vI w), (2, vI e), (3, vI t)] [] (hset h md (eJ 600 gi)) 0 0 := by
    intro k_2
    induction k_2 with
    | zero => intro t gi hm; exact absurd hm (Nat.not_lt_zero _)
    | succ k_2 ih_2 =>
      intro t gi hm_2 ht0 ht1 htl
      refine x_iload_n 3 dX3_laySideBySide_2 rfl rfl ?_
      refine x_iload_n 2 dX3_laySideBySide_3 rfl rfl ?_
      refine x_icmp_ge 96 dX3_laySideBySide_4 (by decide) (fun c_4 => ?_) (fun c_4 => ?_)
      · exact x_return dX3_laySideBySide_96 rfl (by decide) (by decide) ⟨rfl, gi, rfl, fun u q1 q2 => htl u q1 (by omega)⟩
      · refine x_iload_n 3 dX3_laySideBySide_7 rfl rfl ?_
        refine x_sipush dX3_laySideBySide_8 (okI_c rfl) (by decide +kernel) ?_
        refine x_icmp_ge 96 dX3_laySideBySide_11 (by decide) (fun c_11 => (by exfalso; omega)) (fun c_11 => ?_)
        refine x_iload_n 1 dX3_laySideBySide_14 rfl rfl ?_
        refine x_if_ne 40 dX3_laySideBySide_15 (by decide) (fun c_15 => ?_) (fun c_15 => ?_)
        · refine x_iload_n 1 dX3_laySideBySide_40 rfl rfl ?_
          refine x_iconst dX3_laySideBySide_41 (okI_c rfl) ?_
          refine x_icmp_ne 69 dX3_laySideBySide_42 (by decide) (fun c_42 => ?_) (fun c_42 => ?_)
          · refine x_aload_n 0 dX3_laySideBySide_69 rfl rfl ?_
            refine x_get 0 dX3_laySideBySide_70 fl_X3_11 ((hset_ne _ _ (neOJ hm.1 hm.2.1)).trans hm.1) rfl ?_
            refine x_iload_n 3 dX3_laySideBySide_73 rfl rfl ?_
            refine x_aload_n 0 dX3_laySideBySide_74 rfl rfl ?_
            refine x_get 1 dX3_laySideBySide_75 fl_X3_15 ((hset_ne _ _ (neOJ hm.1 hm.2.1)).trans hm.1) rfl ?_
            refine x_iload_n 3 dX3_laySideBySide_78 rfl rfl ?_
            refine x_laload dX3_laySideBySide_79 ((hset_ne _ _ (by have := hm.2.2.2.2; omega)).trans hm.2.2.1) (by omega) (by omega) ?_
            refine x_aload_n 0 dX3_laySideBySide_80 rfl rfl ?_
            refine x_get 2 dX3_laySideBySide_81 fl_X3_18 ((hset_ne _ _ (neOJ hm.1 hm.2.1)).trans hm.1) rfl ?_
            refine x_iload_n 3 dX3_laySideBySide_84 rfl rfl ?_
            refine x_laload dX3_laySideBySide_85 ((hset_ne _ _ (by have := hm.2.2.2.2; omega)).trans hm.2.2.2.1) (by omega) (by omega) ?_
            refine x_maxJ dX3_laySideBySide_86 km_X3_77 (by omega) (Nat.le_of_ble_eq_true rfl) (by omega) (by omega) ?_
            have e1 := hF t ht0 (by omega)
            have e2 := hG t ht0 (by omega)
            have b1 := bF t ht0 (by omega)
            have b2 := bG t ht0 (by omega)
            refine x_lastore dX3_laySideBySide_89 (hset_eq _ _ _) (by omega) (by omega) ?_
            refine x_iinc 3 (L' := [(3, vI (t + 1)), (0, vA m), (1, vI w), (2, vI e)]) dX3_laySideBySide_90 rfl (by unfold okI; omega) (Nat.le_of_ble_eq_true rfl) rfl ?_
            refine x_goto 2 dX3_laySideBySide_93 (by decide) ?_
            exact EX.pick [1, 2, 3, 0] rfl (x_ash (hset_hset _ _ _ _) (ih_2 (t + 1) (va_up gi t.toNat (max (f1 t.toNat) (f2 t.toNat))) (by omega) (by omega) (by omega) (htl.up ht0 (by rw [sideS, ← e1, ← e2]; simp [*]))))
          · refine x_aload_n 0 dX3_laySideBySide_45 rfl rfl ?_
            refine x_get 0 dX3_laySideBySide_46 fl_X3_11 ((hset_ne _ _ (neOJ hm.1 hm.2.1)).trans hm.1) rfl ?_
            refine x_iload_n 3 dX3_laySideBySide_49 rfl rfl ?_
            refine x_aload_n 0 dX3_laySideBySide_50 rfl rfl ?_
            refine x_get 1 dX3_laySideBySide_51 fl_X3_15 ((hset_ne _ _ (neOJ hm.1 hm.2.1)).trans hm.1) rfl ?_
            refine x_iload_n 3 dX3_laySideBySide_54 rfl rfl ?_
            refine x_laload dX3_laySideBySide_55 ((hset_ne _ _ (by have := hm.2.2.2.2; omega)).trans hm.2.2.1) (by omega) (by omega) ?_
            refine x_aload_n 0 dX3_laySideBySide_56 rfl rfl ?_
            refine x_get 2 dX3_laySideBySide_57 fl_X3_18 ((hset_ne _ _ (neOJ hm.1 hm.2.1)).trans hm.1) rfl ?_
            refine x_iload_n 3 dX3_laySideBySide_60 rfl rfl ?_
            refine x_laload dX3_laySideBySide_61 ((hset_ne _ _ (by have := hm.2.2.2.2; omega)).trans hm.2.2.2.1) (by omega) (by omega) ?_
            refine x_minJ dX3_laySideBySide_62 km_X3_80 (by omega) (Nat.le_of_ble_eq_true rfl) (by omega) (by omega) ?_
            have e1 := hF t ht0 (by omega)
            have e2 := hG t ht0 (by omega)
            have b1 := bF t ht0 (by omega)
            have b2 := bG t ht0 (by omega)
            refine x_lastore dX3_laySideBySide_65 (hset_eq _ _ _) (by omega) (by omega) ?_
            refine x_goto 90 dX3_laySideBySide_66 (by decide) ?_
            refine x_iinc 3 (L' := [(3, vI (t + 1)), (0, vA m), (1, vI w), (2, vI e)]) dX3_laySideBySide_90 rfl (by unfold okI; omega) (Nat.le_of_ble_eq_true rfl) rfl ?_
            refine x_goto 2 dX3_laySideBySide_93 (by decide) ?_
            exact EX.pick [1, 2, 3, 0] rfl (x_ash (hset_hset _ _ _ _) (ih_2 (t + 1) (va_up gi t.toNat (min (f1 t.toNat) (f2 t.toNat))) (by omega) (by omega) (by omega) (htl.up ht0 (by rw [sideS, ← e1, ← e2]; simp [*]))))
        · refine x_aload_n 0 dX3_laySideBySide_18 rfl rfl ?_
          refine x_get 0 dX3_laySideBySide_19 fl_X3_11 ((hset_ne _ _ (neOJ hm.1 hm.2.1)).trans hm.1) rfl ?_
          refine x_iload_n 3 dX3_laySideBySide_22 rfl rfl ?_
          refine x_aload_n 0 dX3_laySideBySide_23 rfl rfl ?_
          refine x_get 1 dX3_laySideBySide_24 fl_X3_15 ((hset_ne _ _ (neOJ hm.1 hm.2.1)).trans hm.1) rfl ?_
          refine x_iload_n 3 dX3_laySideBySide_27 rfl rfl ?_
          refine x_laload dX3_laySideBySide_28 ((hset_ne _ _ (by have := hm.2.2.2.2; omega)).trans hm.2.2.1) (by omega) (by omega) ?_
          refine x_aload_n 0 dX3_laySideBySide_29 rfl rfl ?_
          refine x_get 2 dX3_laySideBySide_30 fl_X3_18 ((hset_ne _ _ (neOJ hm.1 hm.2.1)).trans hm.1) rfl ?_
          refine x_iload_n 3 dX3_laySideBySide_33 rfl rfl ?_
          refine x_laload dX3_laySideBySide_34 ((hset_ne _ _ (by have := hm.2.2.2.2; omega)).trans hm.2.2.2.1) (by omega) (by omega) ?_
          have e1 := hF t ht0 (by omega)
          have e2 := hG t ht0 (by omega)
          have b1 := bF t ht0 (by omega)
          have b2 := bG t ht0 (by omega)
          refine x_ladd dX3_laySideBySide_35 (by unfold okJ; omega) ?_
          refine x_lastore dX3_laySideBySide_36 (hset_eq _ _ _) (by omega) (by omega) ?_
          refine x_goto 90 dX3_laySideBySide_37 (by decide) ?_
          refine x_iinc 3 (L' := [(3, vI (t + 1)), (0, vA m), (1, vI w), (2, vI e)]) dX3_laySideBySide_90 rfl (by unfold okI; omega) (Nat.le_of_ble_eq_true rfl) rfl ?_
          refine x_goto 2 dX3_laySideBySide_93 (by decide) ?_
          exact EX.pick [1, 2, 3, 0] rfl (x_ash (hset_hset _ _ _ _) (ih_2 (t + 1) (va_up gi t.toNat ((f1 t.toNat) + (f2 t.toNat))) (by omega) (by omega) (by omega) (htl.up ht0 (by rw [sideS, ← e1, ← e2]; simp [*]))))
  exact EX.pick [1, 2, 3, 0] rfl (x_ash (hset_self hm.2.1).symm (loop_2 ((e - (0 : Int)).toNat + 1) 0 g (Nat.lt_succ_self _) (by omega) (by omega) (fun u q1 q2 => by omega)))
set_option maxRecDepth 100000 in
set_option maxHeartbeats 4000000 in
theorem k_X3_rest {G : aG} {d : Nat} (hd : 1 ≤ d) {h : aH} {m md on ot : Nat} {g f1 f2 : Nat → Int} (hm : MakAt h m md on ot g f1 f2) {F G' : Int → Int} (hF : Tells f1 F 600) (hG : Tells f2 G' 600) (bF : Bnd F 600 4000000000000) (bG : Bnd G' 600 4000000000000) {e : Int} (he0 : 0 ≤ e) (he : e ≤ 600) : MC G mX3_layRest d 0 0 [vA m, vI e] h (fun r' h' => r' = none ∧ ∃ g' : Nat → Int, h' = hset h md (eJ 600 g') ∧ Tells g' (restS F G') e) := by
  refine MC.of (by decide) (Nat.le_of_ble_eq_true rfl) (fun ok okh => ?_)
  show EX G mX3_layRest d 0 0 _ 0 [(0, vA m), (1, vI e)] [] h 0 0
  refine x_lconst (x := 0) dX3_layRest_0 (okJ_c rfl) rfl ?_
  refine x_lstore_n (L' := [(2, vJ 0), (0, vA m), (1, vI e)]) dX3_layRest_1 rfl (Nat.le_of_ble_eq_true rfl) rfl ?_
  refine x_iconst dX3_layRest_2 (okI_c rfl) ?_
  refine x_istore (L' := [(4, vI 0), (2, vJ 0), (0, vA m), (1, vI e)]) dX3_layRest_3 (Nat.le_of_ble_eq_true rfl) rfl ?_
  have loop_5 : ∀ (k_5 : Nat) (w : Int) (t : Int) (gi : Nat → Int), (e - t).toNat < k_5 → 0 ≤ t → t ≤ e → Tells gi (restS F G') t → w = sup0 (fun s => F s - G' s) t.toNat → EX G mX3_layRest d 0 0 (fun r' h' => r' = none ∧ ∃ g' : Nat → Int, h' = hset h md (eJ 600 g') ∧ Tells g' (restS F G') e) 5 [(0, vA m), (1, vI e), (2, vJ w), (4, vI t)] [] (hset h md (eJ 600 gi)) 0 0 := by
    intro k_5
    induction k_5 with
    | zero => intro w t gi hm; exact absurd hm (Nat.not_lt_zero _)
    | succ k_5 ih_5 =>
      intro w t gi hm_5 ht0 ht1 htl hw
      refine x_iload 3 dX3_layRest_5 rfl ?_
      refine x_iload_n 1 dX3_layRest_7 rfl rfl ?_
      refine x_icmp_ge 53 dX3_layRest_8 (by decide) (fun c_8 => ?_) (fun c_8 => ?_)
      · exact x_return dX3_layRest_53 rfl (by decide) (by decide) ⟨rfl, gi, rfl, fun u q1 q2 => htl u q1 (by omega)⟩
      · refine x_iload 3 dX3_layRest_11 rfl ?_
        refine x_sipush dX3_layRest_13 (okI_c rfl) (by decide +kernel) ?_
        refine x_icmp_ge 53 dX3_layRest_16 (by decide) (fun c_16 => (by exfalso; omega)) (fun c_16 => ?_)
        refine x_lload_n 2 dX3_layRest_19 rfl rfl ?_
        refine x_aload_n 0 dX3_layRest_20 rfl rfl ?_
        refine x_get 1 dX3_layRest_21 fl_X3_15 ((hset_ne _ _ (neOJ hm.1 hm.2.1)).trans hm.1) rfl ?_
        refine x_iload 3 dX3_layRest_24 rfl ?_
        refine x_laload dX3_layRest_26 ((hset_ne _ _ (by have := hm.2.2.2.2; omega)).trans hm.2.2.1) (by omega) (by omega) ?_
        refine x_aload_n 0 dX3_layRest_27 rfl rfl ?_
        refine x_get 2 dX3_layRest_28 fl_X3_18 ((hset_ne _ _ (neOJ hm.1 hm.2.1)).trans hm.1) rfl ?_
        refine x_iload 3 dX3_layRest_31 rfl ?_
        refine x_laload dX3_layRest_33 ((hset_ne _ _ (by have := hm.2.2.2.2; omega)).trans hm.2.2.2.1) (by omega) (by omega) ?_
        have e1 := hF t ht0 (by omega)
        have e2 := hG t ht0 (by omega)
        have b1 := bF t ht0 (by omega)
        have b2 := bG t ht0 (by omega)
        refine x_lsub dX3_layRest_34 (by unfold okJ; omega) ?_
        refine x_maxJ dX3_layRest_35 km_X3_77 (by omega) (Nat.le_of_ble_eq_true rfl) (by omega) (by omega) ?_
        refine x_nmJ (fun x1 e_x1 => ?_)
        refine x_lstore_n (L' := [(2, vJ x1), (0, vA m), (1, vI e), (4, vI t)]) dX3_layRest_38 rfl (Nat.le_of_ble_eq_true rfl) rfl ?_
        refine x_aload_n 1 dX3_layRest_39 rfl rfl ?_
        refine x_get 0 dX3_layRest_40 fl_X3_11 ((hset_ne _ _ (neOJ hm.1 hm.2.1)).trans hm.1) rfl ?_
        refine x_iload 3 dX3_layRest_43 rfl ?_
        refine x_lload_n 0 dX3_layRest_45 rfl rfl ?_
        refine x_lastore dX3_layRest_46 (hset_eq _ _ _) (by omega) (by omega) ?_
        refine x_iinc 3 (L' := [(4, vI (t + 1)), (2, vJ x1), (0, vA m), (1, vI e)]) dX3_layRest_47 rfl (by unfold okI; omega) (Nat.le_of_ble_eq_true rfl) rfl ?_
        refine x_goto 5 dX3_layRest_50 (by decide) ?_
        exact EX.pick [2, 3, 1, 0] rfl (x_ash (hset_hset _ _ _ _) (ih_5 x1 (t + 1) (va_up gi t.toNat x1) (by omega) (by omega) (by omega) (htl.up ht0 (by rw [restS, sup0_s ht0, ← hw, ← e1, ← e2, e_x1])) (by rw [sup0_s ht0, ← hw, ← e1, ← e2, e_x1])))
  exact EX.pick [2, 3, 1, 0] rfl (x_ash (hset_self hm.2.1).symm (loop_5 ((e - (0 : Int)).toNat + 1) 0 0 g (Nat.lt_succ_self _) (by omega) (by omega) (fun u q1 q2 => by omega) rfl))
set_option maxRecDepth 100000 in
set_option maxHeartbeats 4000000 in
theorem k_X3_leastTogether {G : aG} {d : Nat} (hd : 1 ≤ d) {h : aH} {m md on ot : Nat} {g f1 f2 : Nat → Int} (hm : MakAt h m md on ot g f1 f2) {F G' : Int → Int} (hF : Tells f1 F 600) (hG : Tells f2 G' 600) (bF : Bnd F 600 4000000000000) (bG : Bnd G' 600 4000000000000) {t n1 n2 : Int} (ht0 : 0 ≤ t) (ht : t < 600) (hn1 : 1 ≤ n1) (hn2 : 1 ≤ n2) (hn1b : n1 ≤ 1000) (hn2b : n2 ≤ 1000) (hex : ∀ s : Int, 0 ≤ s → s ≤ t → ∃ s' : Int, 0 ≤ s' ∧ s' ≤ t ∧ (s' < n1 ∨ t - s' < n2) ∧ F s' + G' (t - s') ≤ F s + G' (t - s)) : MC G mX3_leastTogether d 0 0 [vA m, vI t, vI n1, vI n2] h (Ret (vJ (bothS F G' t)) h) := by
  refine MC.of (by decide) (Nat.le_of_ble_eq_true rfl) (fun ok okh => ?_)
  show EX G mX3_leastTogether d 0 0 _ 0 [(0, vA m), (1, vI t), (2, vI n1), (3, vI n2)] [] h 0 0
  refine x_iload_n 1 dX3_leastTogether_0 rfl rfl ?_
  refine x_if_lt 11 dX3_leastTogether_1 (by decide) (fun c_1 => (by exfalso; omega)) (fun c_1 => ?_)
  refine x_iload_n 1 dX3_leastTogether_4 rfl rfl ?_
  refine x_sipush dX3_leastTogether_5 (okI_c rfl) (by decide +kernel) ?_
  refine x_icmp_lt 13 dX3_leastTogether_8 (by decide) (fun c_8 => ?_) (fun c_8 => (by exfalso; omega))
  refine x_aload_n 0 dX3_leastTogether_13 rfl rfl ?_
  refine x_get 1 dX3_leastTogether_14 fl_X3_15 hm.1 rfl ?_
  refine x_iload_n 1 dX3_leastTogether_17 rfl rfl ?_
  refine x_laload dX3_leastTogether_18 hm.2.2.1 (by omega) (by omega) ?_
  refine x_aload_n 0 dX3_leastTogether_19 rfl rfl ?_
  refine x_get 2 dX3_leastTogether_20 fl_X3_18 hm.1 rfl ?_
  refine x_iconst dX3_leastTogether_23 (okI_c rfl) ?_
  refine x_laload dX3_leastTogether_24 hm.2.2.2.1 (by omega) (by omega) ?_
  have e1 := hF t ht0 ht
  have e2 := hG 0 (by omega) (by omega)
  have b1 := bF t ht0 ht
  have b2 := bG 0 (by omega) (by omega)
  refine x_ladd dX3_leastTogether_25 (by unfold okJ; omega) ?_
  refine x_nmJ (fun x1 e_x1 => ?_)
  refine x_lstore (L' := [(4, vJ x1), (0, vA m), (1, vI t), (2, vI n1), (3, vI n2)]) dX3_leastTogether_26 (Nat.le_of_ble_eq_true rfl) rfl ?_
  refine x_iload_n 3 dX3_leastTogether_28 rfl rfl ?_
  refine x_iload_n 2 dX3_leastTogether_29 rfl rfl ?_
  refine x_iconst dX3_leastTogether_30 (okI_c rfl) ?_
  refine x_iadd dX3_leastTogether_31 (by unfold okI; omega) ?_
  refine x_minI dX3_leastTogether_32 km_X3_34 (by omega) (Nat.le_of_ble_eq_true rfl) (by omega) (by omega) ?_
  refine x_nmI (fun x2 e_x2 => ?_)
  refine x_istore (L' := [(6, vI x2), (4, vJ x1), (0, vA m), (1, vI t), (2, vI n1), (3, vI n2)]) dX3_leastTogether_35 (Nat.le_of_ble_eq_true rfl) rfl ?_
  refine x_iconst dX3_leastTogether_37 (okI_c rfl) ?_
  refine x_istore (L' := [(7, vI 0), (6, vI x2), (4, vJ x1), (0, vA m), (1, vI t), (2, vI n1), (3, vI n2)]) dX3_leastTogether_38 (Nat.le_of_ble_eq_true rfl) rfl ?_
  have loop_40 : ∀ (k_40 : Nat) (w : Int) (s : Int) , (x2 - s).toNat < k_40 → 0 ≤ s → s ≤ x2 → (∃ y : Int, 0 ≤ y ∧ y ≤ t ∧ w = F y + G' (t - y)) → (∀ y : Int, 0 ≤ y → y < s → w ≤ F y + G' (t - y)) → w ≤ F t + G' 0 → EX G mX3_leastTogether d 0 0 (Ret (vJ (bothS F G' t)) h) 40 [(0, vA m), (1, vI t), (2, vI n1), (3, vI n2), (4, vJ w), (6, vI x2), (7, vI s)] [] h 0 0 := by
    intro k_40
    induction k_40 with
    | zero => intro w s hm; exact absurd hm (Nat.not_lt_zero _)
    | succ k_40 ih_40 =>
      intro w s hm_40 hs0 hs1 hw1 hw2 hw3
      refine x_iload 6 dX3_leastTogether_40 rfl ?_
      refine x_iload 5 dX3_leastTogether_42 rfl ?_
      refine x_icmp_ge 77 dX3_leastTogether_44 (by decide) (fun c_44 => ?_) (fun c_44 => ?_)
      · refine x_iconst dX3_leastTogether_77 (okI_c rfl) ?_
        refine x_istore (L' := [(7, vI 1), (0, vA m), (1, vI t), (2, vI n1), (3, vI n2), (4, vJ w), (6, vI x2)]) dX3_leastTogether_78 (Nat.le_of_ble_eq_true rfl) rfl ?_
        have loop_80 : ∀ (k_80 : Nat) (w : Int) (s : Int) , (1001 - s).toNat < k_80 → 1 ≤ s → (∃ y : Int, 0 ≤ y ∧ y ≤ t ∧ w = F y + G' (t - y)) → (∀ y : Int, 0 ≤ y → y < x2 → w ≤ F y + G' (t - y)) → (∀ y : Int, 0 ≤ y → y < s → y ≤ t → w ≤ F (t - y) + G' y) → EX G mX3_leastTogether d 0 0 (Ret (vJ (bothS F G' t)) h) 80 [(0, vA m), (1, vI t), (2, vI n1), (3, vI n2), (4, vJ w), (7, vI s)] [] h 0 0 := by
          intro k_80
          induction k_80 with
          | zero => intro w s hm; exact absurd hm (Nat.not_lt_zero _)
          | succ k_80 ih_80 =>
            intro w s hm_80 hs0 hw1 hw2 hw3
            refine x_iload 5 dX3_leastTogether_80 rfl ?_
            refine x_iload_n 3 dX3_leastTogether_82 rfl rfl ?_
            refine x_icmp_ge 122 dX3_leastTogether_83 (by decide) (fun c_83 => ?_) (fun c_83 => ?_)
            · refine x_lload 4 dX3_leastTogether_122 rfl ?_
              exact x_lreturn dX3_leastTogether_124 rfl (by decide) (by decide) (retJ (both_eq ht0 hw1 (fun y q1 q2 => by obtain ⟨z, z1, z2, z3, z4⟩ := hex y q1 q2; rcases z3 with z3 | z3; have := hw2 z z1 (by omega); omega; have := hw3 (t - z) (by omega) (by omega) (by omega); rw [show t - (t - z) = z by omega] at this; omega)))
            · refine x_iload 5 dX3_leastTogether_86 rfl ?_
              refine x_iload_n 1 dX3_leastTogether_88 rfl rfl ?_
              refine x_icmp_gt 122 dX3_leastTogether_89 (by decide) (fun c_89 => ?_) (fun c_89 => ?_)
              · refine x_lload 4 dX3_leastTogether_122 rfl ?_
                exact x_lreturn dX3_leastTogether_124 rfl (by decide) (by decide) (retJ (both_eq ht0 hw1 (fun y q1 q2 => by obtain ⟨z, z1, z2, z3, z4⟩ := hex y q1 q2; rcases z3 with z3 | z3; have := hw2 z z1 (by omega); omega; have := hw3 (t - z) (by omega) (by omega) (by omega); rw [show t - (t - z) = z by omega] at this; omega)))
              · refine x_lload 4 dX3_leastTogether_92 rfl ?_
                refine x_aload_n 0 dX3_leastTogether_94 rfl rfl ?_
                refine x_get 1 dX3_leastTogether_95 fl_X3_15 hm.1 rfl ?_
                refine x_iload_n 1 dX3_leastTogether_98 rfl rfl ?_
                refine x_iload 5 dX3_leastTogether_99 rfl ?_
                refine x_isub dX3_leastTogether_101 (by unfold okI; omega) ?_
                refine x_laload dX3_leastTogether_102 hm.2.2.1 (by omega) (by omega) ?_
                refine x_aload_n 0 dX3_leastTogether_103 rfl rfl ?_
                refine x_get 2 dX3_leastTogether_104 fl_X3_18 hm.1 rfl ?_
                refine x_iload 5 dX3_leastTogether_107 rfl ?_
                refine x_laload dX3_leastTogether_109 hm.2.2.2.1 (by omega) (by omega) ?_
                have e1 := hF (t - s) (by omega) (by omega)
                have e2 := hG s (by omega) (by omega)
                have b1 := bF (t - s) (by omega) (by omega)
                have b2 := bG s (by omega) (by omega)
                refine x_ladd dX3_leastTogether_110 (by unfold okJ; omega) ?_
                refine x_minJ dX3_leastTogether_111 km_X3_80 (by omega) (Nat.le_of_ble_eq_true rfl) (by omega) (by omega) ?_
                refine x_nmJ (fun x3 e_x3 => ?_)
                refine x_lstore (L' := [(4, vJ x3), (0, vA m), (1, vI t), (2, vI n1), (3, vI n2), (7, vI s)]) dX3_leastTogether_114 (Nat.le_of_ble_eq_true rfl) rfl ?_
                refine x_iinc 5 (L' := [(7, vI (s + 1)), (4, vJ x3), (0, vA m), (1, vI t), (2, vI n1), (3, vI n2)]) dX3_leastTogether_116 rfl (by unfold okI; omega) (Nat.le_of_ble_eq_true rfl) rfl ?_
                refine x_goto 80 dX3_leastTogether_119 (by decide) ?_
                exact EX.pick [2, 3, 4, 5, 1, 0] rfl (ih_80 x3 (s + 1)  (by omega) (by omega) (by rcases Int.le_total w (f1 (t - s).toNat + f2 s.toNat) with q | q; exact ⟨hw1.choose, hw1.choose_spec.1, hw1.choose_spec.2.1, by rw [e_x3, Int.min_eq_left q]; exact hw1.choose_spec.2.2⟩; exact ⟨t - s, by omega, by omega, by rw [e_x3, Int.min_eq_right q, e1, e2, show t - (t - s) = s by omega]⟩) (fun y q1 q2 => by have := hw2 y q1 q2; omega) (fun y q1 q2 q3 => by by_cases q : y < s; have := hw3 y q1 q q3; omega; have e : y = s := (by omega); subst e; rw [← e1, ← e2, e_x3]; omega))
        exact EX.pick [1, 2, 3, 4, 5, 0] rfl (loop_80 ((1001 - (1 : Int)).toNat + 1) w 1  (Nat.lt_succ_self _) (by omega) hw1 (fun y q1 q2 => hw2 y q1 (by omega)) (fun y q1 q2 q3 => by rw [show y = 0 by omega, Int.sub_zero]; exact hw3))
      · refine x_lload 4 dX3_leastTogether_47 rfl ?_
        refine x_aload_n 0 dX3_leastTogether_49 rfl rfl ?_
        refine x_get 1 dX3_leastTogether_50 fl_X3_15 hm.1 rfl ?_
        refine x_iload 6 dX3_leastTogether_53 rfl ?_
        refine x_laload dX3_leastTogether_55 hm.2.2.1 (by omega) (by omega) ?_
        refine x_aload_n 0 dX3_leastTogether_56 rfl rfl ?_
        refine x_get 2 dX3_leastTogether_57 fl_X3_18 hm.1 rfl ?_
        refine x_iload_n 1 dX3_leastTogether_60 rfl rfl ?_
        refine x_iload 6 dX3_leastTogether_61 rfl ?_
        refine x_isub dX3_leastTogether_63 (by unfold okI; omega) ?_
        refine x_laload dX3_leastTogether_64 hm.2.2.2.1 (by omega) (by omega) ?_
        have e1 := hF s hs0 (by omega)
        have e2 := hG (t - s) (by omega) (by omega)
        have b1 := bF s hs0 (by omega)
        have b2 := bG (t - s) (by omega) (by omega)
        refine x_ladd dX3_leastTogether_65 (by unfold okJ; omega) ?_
        refine x_minJ dX3_leastTogether_66 km_X3_80 (by omega) (Nat.le_of_ble_eq_true rfl) (by omega) (by omega) ?_
        refine x_nmJ (fun x4 e_x4 => ?_)
        refine x_lstore (L' := [(4, vJ x4), (0, vA m), (1, vI t), (2, vI n1), (3, vI n2), (6, vI x2), (7, vI s)]) dX3_leastTogether_69 (Nat.le_of_ble_eq_true rfl) rfl ?_
        refine x_iinc 6 (L' := [(7, vI (s + 1)), (4, vJ x4), (0, vA m), (1, vI t), (2, vI n1), (3, vI n2), (6, vI x2)]) dX3_leastTogether_71 rfl (by unfold okI; omega) (Nat.le_of_ble_eq_true rfl) rfl ?_
        refine x_goto 40 dX3_leastTogether_74 (by decide) ?_
        exact EX.pick [2, 3, 4, 5, 1, 6, 0] rfl (ih_40 x4 (s + 1)  (by omega) (by omega) (by omega) (by rcases Int.le_total w (f1 s.toNat + f2 (t - s).toNat) with q | q; exact ⟨hw1.choose, hw1.choose_spec.1, hw1.choose_spec.2.1, by rw [e_x4, Int.min_eq_left q]; exact hw1.choose_spec.2.2⟩; exact ⟨s, hs0, by omega, by rw [e_x4, Int.min_eq_right q, e1, e2]⟩) (fun y q1 q2 => by by_cases q : y < s; have := hw2 y q1 q; omega; have e : y = s := (by omega); subst e; rw [← e1, ← e2, e_x4]; omega) (by omega))
  exact EX.pick [3, 4, 5, 6, 2, 1, 0] rfl (loop_40 ((x2 - (0 : Int)).toNat + 1) x1 0  (Nat.lt_succ_self _) (by omega) (by omega) ⟨t, ht0, Int.le_refl t, by rw [e_x1, hF t ht0 ht, hG 0 (by omega) (by omega), Int.sub_self]⟩ (fun y q1 q2 => by omega) (by rw [e_x1, hF t ht0 ht, hG 0 (by omega) (by omega)]; exact Int.le_refl _))
set_option maxRecDepth 100000 in
set_option maxHeartbeats 4000000 in
theorem k_X3_both {G : aG} {d : Nat} (hd : 2 ≤ d) {h : aH} {m md on ot : Nat} {g f1 f2 : Nat → Int} (hm : MakAt h m md on ot g f1 f2) {F G' : Int → Int} (hF : Tells f1 F 600) (hG : Tells f2 G' 600) (bF : Bnd F 600 4000000000000) (bG : Bnd G' 600 4000000000000) {n1 n2 : Int} {e : Int} (he0 : 0 ≤ e) (he : e ≤ 600) (hn1 : 1 ≤ n1) (hn2 : 1 ≤ n2) (hn1b : n1 ≤ 1000) (hn2b : n2 ≤ 1000) (hex : ∀ t s : Int, 0 ≤ s → s ≤ t → ∃ s' : Int, 0 ≤ s' ∧ s' ≤ t ∧ (s' < n1 ∨ t - s' < n2) ∧ F s' + G' (t - s') ≤ F s + G' (t - s)) : MC G mX3_layBoth d 0 0 [vA m, vI e, vI n1, vI n2] h (fun r' h' => r' = none ∧ ∃ g' : Nat → Int, h' = hset h md (eJ 600 g') ∧ Tells g' (bothS F G') e) := by
  refine MC.of (by decide) (Nat.le_of_ble_eq_true rfl) (fun ok okh => ?_)
  show EX G mX3_layBoth d 0 0 _ 0 [(0, vA m), (1, vI e), (2, vI n1), (3, vI n2)] [] h 0 0
  refine x_iconst dX3_layBoth_0 (okI_c rfl) ?_
  refine x_istore (L' := [(4, vI 0), (0, vA m), (1, vI e), (2, vI n1), (3, vI n2)]) dX3_layBoth_1 (Nat.le_of_ble_eq_true rfl) rfl ?_
  have loop_3 : ∀ (k_3 : Nat) (t : Int) (gi : Nat → Int), (e - t).toNat < k_3 → 0 ≤ t → t ≤ e → Tells gi (bothS F G') t → EX G mX3_layBoth d 0 0 (fun r' h' => r' = none ∧ ∃ g' : Nat → Int, h' = hset h md (eJ 600 g') ∧ Tells g' (bothS F G') e) 3 [(0, vA m), (1, vI e), (2, vI n1), (3, vI n2), (4, vI t)] [] (hset h md (eJ 600 gi)) 0 0 := by
    intro k_3
    induction k_3 with
    | zero => intro t gi hm; exact absurd hm (Nat.not_lt_zero _)
    | succ k_3 ih_3 =>
      intro t gi hm_3 ht0 ht1 htl
      refine x_iload 4 dX3_layBoth_3 rfl ?_
      refine x_iload_n 1 dX3_layBoth_5 rfl rfl ?_
      refine x_icmp_ge 38 dX3_layBoth_6 (by decide) (fun c_6 => ?_) (fun c_6 => ?_)
      · exact x_return dX3_layBoth_38 rfl (by decide) (by decide) ⟨rfl, gi, rfl, fun u q1 q2 => htl u q1 (by omega)⟩
      · refine x_iload 4 dX3_layBoth_9 rfl ?_
        refine x_sipush dX3_layBoth_11 (okI_c rfl) (by decide +kernel) ?_
        refine x_icmp_ge 38 dX3_layBoth_14 (by decide) (fun c_14 => (by exfalso; omega)) (fun c_14 => ?_)
        refine x_aload_n 0 dX3_layBoth_17 rfl rfl ?_
        refine x_get 0 dX3_layBoth_18 fl_X3_11 ((hset_ne _ _ (neOJ hm.1 hm.2.1)).trans hm.1) rfl ?_
        refine x_iload 4 dX3_layBoth_21 rfl ?_
        refine x_aload_n 0 dX3_layBoth_23 rfl rfl ?_
        refine x_iload 4 dX3_layBoth_24 rfl ?_
        refine x_iload_n 2 dX3_layBoth_26 rfl rfl ?_
        refine x_iload_n 3 dX3_layBoth_27 rfl rfl ?_
        refine x_callV [vI t, vI n1, vI n2] dX3_layBoth_28 kv_X3_82 rfl rfl ((hset_ne _ _ (neOJ hm.1 hm.2.1)).trans hm.1) (by omega) (Nat.le_of_ble_eq_true rfl) (by omega) (by omega) (k_X3_leastTogether (d := 1) (by omega) (hm.made gi) hF hG bF bG (t := t) ht0 (by omega) hn1 hn2 hn1b hn2b (hex t)) (after_ret ?_)
        refine x_lastore dX3_layBoth_31 (hset_eq _ _ _) (by omega) (by omega) ?_
        refine x_iinc 4 (L' := [(4, vI (t + 1)), (0, vA m), (1, vI e), (2, vI n1), (3, vI n2)]) dX3_layBoth_32 rfl (by unfold okI; omega) (Nat.le_of_ble_eq_true rfl) rfl ?_
        refine x_goto 3 dX3_layBoth_35 (by decide) ?_
        exact EX.pick [1, 2, 3, 4, 0] rfl (x_ash (hset_hset _ _ _ _) (ih_3 (t + 1) (va_up gi t.toNat (bothS F G' t)) (by omega) (by omega) (by omega) (htl.up ht0 rfl)))
  exact EX.pick [1, 2, 3, 4, 0] rfl (x_ash (hset_self hm.2.1).symm (loop_3 ((e - (0 : Int)).toNat + 1) 0 g (Nat.lt_succ_self _) (by omega) (by omega) (fun u q1 q2 => by omega)))
set_option maxRecDepth 100000 in
set_option maxHeartbeats 4000000 in
theorem k_X3_off {G : aG} {d : Nat} (hd : 1 ≤ d) {h : aH} {m md on ot : Nat} {g f1 f2 : Nat → Int} (hm : MakAt h m md on ot g f1 f2) {F G' : Int → Int} (hF : Tells f1 F 600) (hG : Tells f2 G' 600) (bF : Bnd F 600 4000000000000) (bG : Bnd G' 600 4000000000000) {n : Int} {e : Int} (he0 : 0 ≤ e) (he : e ≤ 600) (hn0 : 0 ≤ n) (hen : e + n ≤ 600) : MC G mX3_layOff d 0 0 [vA m, vI e, vI n] h (fun r' h' => r' = none ∧ ∃ g' : Nat → Int, h' = hset h md (eJ 600 g') ∧ Tells g' (offS F G' n) e) := by
  refine MC.of (by decide) (Nat.le_of_ble_eq_true rfl) (fun ok okh => ?_)
  show EX G mX3_layOff d 0 0 _ 0 [(0, vA m), (1, vI e), (2, vI n)] [] h 0 0
  refine x_iconst dX3_layOff_0 (okI_c rfl) ?_
  refine x_istore_n (L' := [(3, vI 0), (0, vA m), (1, vI e), (2, vI n)]) dX3_layOff_1 rfl (Nat.le_of_ble_eq_true rfl) rfl ?_
  have loop_2 : ∀ (k_2 : Nat) (t : Int) (gi : Nat → Int), (e - t).toNat < k_2 → 0 ≤ t → t ≤ e → Tells gi (offS F G' n) t → EX G mX3_layOff d 0 0 (fun r' h' => r' = none ∧ ∃ g' : Nat → Int, h' = hset h md (eJ 600 g') ∧ Tells g' (offS F G' n) e) 2 [(0, vA m), (1, vI e), (2, vI n), (3, vI t)] [] (hset h md (eJ 600 gi)) 0 0 := by
    intro k_2
    induction k_2 with
    | zero => intro t gi hm; exact absurd hm (Nat.not_lt_zero _)
    | succ k_2 ih_2 =>
      intro t gi hm_2 ht0 ht1 htl
      refine x_iload_n 3 dX3_layOff_2 rfl rfl ?_
      refine x_iload_n 1 dX3_layOff_3 rfl rfl ?_
      refine x_icmp_ge 80 dX3_layOff_4 (by decide) (fun c_4 => ?_) (fun c_4 => ?_)
      · exact x_return dX3_layOff_80 rfl (by decide) (by decide) ⟨rfl, gi, rfl, fun u q1 q2 => htl u q1 (by omega)⟩
      · refine x_iload_n 3 dX3_layOff_7 rfl rfl ?_
        refine x_sipush dX3_layOff_8 (okI_c rfl) (by decide +kernel) ?_
        refine x_icmp_ge 80 dX3_layOff_11 (by decide) (fun c_11 => (by exfalso; omega)) (fun c_11 => ?_)
        refine x_lconst (x := 0) dX3_layOff_14 (okJ_c rfl) rfl ?_
        refine x_lstore (L' := [(4, vJ 0), (0, vA m), (1, vI e), (2, vI n), (3, vI t)]) dX3_layOff_15 (Nat.le_of_ble_eq_true rfl) rfl ?_
        refine x_iconst dX3_layOff_17 (okI_c rfl) ?_
        refine x_istore (L' := [(6, vI 0), (4, vJ 0), (0, vA m), (1, vI e), (2, vI n), (3, vI t)]) dX3_layOff_18 (Nat.le_of_ble_eq_true rfl) rfl ?_
        have loop_20 : ∀ (k_20 : Nat) (w : Int) (u : Int) , (n - u).toNat < k_20 → 0 ≤ u → u ≤ n → w = sup0 (fun u => F (t + u) - G' u) u.toNat → EX G mX3_layOff d 0 0 (fun r' h' => r' = none ∧ ∃ g' : Nat → Int, h' = hset h md (eJ 600 g') ∧ Tells g' (offS F G' n) e) 20 [(0, vA m), (1, vI e), (2, vI n), (3, vI t), (4, vJ w), (6, vI u)] [] (hset h md (eJ 600 gi)) 0 0 := by
          intro k_20
          induction k_20 with
          | zero => intro w u hm; exact absurd hm (Nat.not_lt_zero _)
          | succ k_20 ih_20 =>
            intro w u hm_20 hu0 hu1 hw
            refine x_iload 5 dX3_layOff_20 rfl ?_
            refine x_iload_n 2 dX3_layOff_22 rfl rfl ?_
            refine x_icmp_ge 66 dX3_layOff_23 (by decide) (fun c_23 => ?_) (fun c_23 => ?_)
            · refine x_aload_n 0 dX3_layOff_66 rfl rfl ?_
              refine x_get 0 dX3_layOff_67 fl_X3_11 ((hset_ne _ _ (neOJ hm.1 hm.2.1)).trans hm.1) rfl ?_
              refine x_iload_n 3 dX3_layOff_70 rfl rfl ?_
              refine x_lload 4 dX3_layOff_71 rfl ?_
              refine x_lastore dX3_layOff_73 (hset_eq _ _ _) (by omega) (by omega) ?_
              refine x_iinc 3 (L' := [(3, vI (t + 1)), (0, vA m), (1, vI e), (2, vI n), (4, vJ w), (6, vI u)]) dX3_layOff_74 rfl (by unfold okI; omega) (Nat.le_of_ble_eq_true rfl) rfl ?_
              refine x_goto 2 dX3_layOff_77 (by decide) ?_
              exact EX.pick [1, 2, 3, 0] rfl (x_ash (hset_hset _ _ _ _) (ih_2 (t + 1) (va_up gi t.toNat w) (by omega) (by omega) (by omega) (htl.up ht0 (by rw [hw, offS]; congr 1; omega))))
            · refine x_iload_n 3 dX3_layOff_26 rfl rfl ?_
              refine x_iload 5 dX3_layOff_27 rfl ?_
              refine x_iadd dX3_layOff_29 (by unfold okI; omega) ?_
              refine x_sipush dX3_layOff_30 (okI_c rfl) (by decide +kernel) ?_
              refine x_icmp_ge 66 dX3_layOff_33 (by decide) (fun c_33 => (by exfalso; omega)) (fun c_33 => ?_)
              refine x_lload 4 dX3_layOff_36 rfl ?_
              refine x_aload_n 0 dX3_layOff_38 rfl rfl ?_
              refine x_get 1 dX3_layOff_39 fl_X3_15 ((hset_ne _ _ (neOJ hm.1 hm.2.1)).trans hm.1) rfl ?_
              refine x_iload_n 3 dX3_layOff_42 rfl rfl ?_
              refine x_iload 5 dX3_layOff_43 rfl ?_
              refine x_iadd dX3_layOff_45 (by unfold okI; omega) ?_
              refine x_laload dX3_layOff_46 ((hset_ne _ _ (by have := hm.2.2.2.2; omega)).trans hm.2.2.1) (by omega) (by omega) ?_
              refine x_aload_n 0 dX3_layOff_47 rfl rfl ?_
              refine x_get 2 dX3_layOff_48 fl_X3_18 ((hset_ne _ _ (neOJ hm.1 hm.2.1)).trans hm.1) rfl ?_
              refine x_iload 5 dX3_layOff_51 rfl ?_
              refine x_laload dX3_layOff_53 ((hset_ne _ _ (by have := hm.2.2.2.2; omega)).trans hm.2.2.2.1) (by omega) (by omega) ?_
              have e1 := hF (t + u) (by omega) (by omega)
              have e2 := hG u (by omega) (by omega)
              have b1 := bF (t + u) (by omega) (by omega)
              have b2 := bG u (by omega) (by omega)
              refine x_lsub dX3_layOff_54 (by unfold okJ; omega) ?_
              refine x_maxJ dX3_layOff_55 km_X3_77 (by omega) (Nat.le_of_ble_eq_true rfl) (by omega) (by omega) ?_
              refine x_nmJ (fun x1 e_x1 => ?_)
              refine x_lstore (L' := [(4, vJ x1), (0, vA m), (1, vI e), (2, vI n), (3, vI t), (6, vI u)]) dX3_layOff_58 (Nat.le_of_ble_eq_true rfl) rfl ?_
              refine x_iinc 5 (L' := [(6, vI (u + 1)), (4, vJ x1), (0, vA m), (1, vI e), (2, vI n), (3, vI t)]) dX3_layOff_60 rfl (by unfold okI; omega) (Nat.le_of_ble_eq_true rfl) rfl ?_
              refine x_goto 20 dX3_layOff_63 (by decide) ?_
              exact EX.pick [2, 3, 4, 5, 1, 0] rfl (x_ash rfl (ih_20 x1 (u + 1)  (by omega) (by omega) (by omega) (by rw [sup0_s hu0, ← hw, ← e1, ← e2, e_x1])))
        exact EX.pick [2, 3, 4, 5, 1, 0] rfl (x_ash rfl (loop_20 ((n - (0 : Int)).toNat + 1) 0 0  (Nat.lt_succ_self _) (by omega) (by omega) rfl))
  exact EX.pick [1, 2, 3, 0] rfl (x_ash (hset_self hm.2.1).symm (loop_2 ((e - (0 : Int)).toNat + 1) 0 g (Nat.lt_succ_self _) (by omega) (by omega) (fun u q1 q2 => by omega)))
set_option maxRecDepth 100000 in
set_option maxHeartbeats 4000000 in
theorem k_X3_comesRound {G : aG} {d : Nat} (hd : 1 ≤ d) {h : aH} {m md on ot : Nat} {g f1 f2 : Nat → Int} (hm : MakAt h m md on ot g f1 f2) {H : Int → Int} {fr tu : Int} (hH : Tells g H (fr + 2 * tu)) (bH : Bnd H (fr + 2 * tu) 4000000000000000) (hfr : 0 ≤ fr) (htu : 1 ≤ tu) (hro : fr + 2 * tu ≤ 600) {c : Int} (hc0 : 0 ≤ c) (hc : c ≤ 1000000000000000) : MC G mX3_comesRound d 0 0 [vA m, vI fr, vI tu, vJ c] h (Ret (vI (b2i (∀ t : Int, fr ≤ t → t < fr + tu → H (t + tu) = H t + c))) h) := by
  refine MC.of (by decide) (Nat.le_of_ble_eq_true rfl) (fun ok okh => ?_)
  show EX G mX3_comesRound d 0 0 _ 0 [(0, vA m), (1, vI fr), (2, vI tu), (3, vJ c)] [] h 0 0
  refine x_iconst dX3_comesRound_0 (okI_c rfl) ?_
  refine x_iload_n 1 dX3_comesRound_1 rfl rfl ?_
  refine x_maxI dX3_comesRound_2 km_X3_44 (by omega) (Nat.le_of_ble_eq_true rfl) (by omega) (by omega) ?_
  refine x_nmI (fun x1 e_x1 => ?_)
  refine x_istore (L' := [(5, vI x1), (0, vA m), (1, vI fr), (2, vI tu), (3, vJ c)]) dX3_comesRound_5 (Nat.le_of_ble_eq_true rfl) rfl ?_
  have loop_7 : ∀ (k_7 : Nat) (t : Int) , (fr + tu - t).toNat < k_7 → fr ≤ t → t ≤ fr + tu → (∀ y : Int, fr ≤ y → y < t → H (y + tu) = H y + c) → EX G mX3_comesRound d 0 0 (Ret (vI (b2i (∀ t : Int, fr ≤ t → t < fr + tu → H (t + tu) = H t + c))) h) 7 [(0, vA m), (1, vI fr), (2, vI tu), (3, vJ c), (5, vI t)] [] h 0 0 := by
    intro k_7
    induction k_7 with
    | zero => intro t hm; exact absurd hm (Nat.not_lt_zero _)
    | succ k_7 ih_7 =>
      intro t hm_7 ht0 ht1 hall
      refine x_iload 4 dX3_comesRound_7 rfl ?_
      refine x_iload_n 1 dX3_comesRound_9 rfl rfl ?_
      refine x_iload_n 2 dX3_comesRound_10 rfl rfl ?_
      refine x_iadd dX3_comesRound_11 (by unfold okI; omega) ?_
      refine x_icmp_ge 59 dX3_comesRound_12 (by decide) (fun c_12 => ?_) (fun c_12 => ?_)
      · refine x_iconst dX3_comesRound_59 (okI_c rfl) ?_
        exact x_zreturn dX3_comesRound_60 rfl (Or.inr rfl) (by decide) (by decide) (retI (b2i_t (fun y q1 q2 => hall y q1 (by omega))).symm)
      · refine x_iload_n 2 dX3_comesRound_15 rfl rfl ?_
        refine x_if_lt 51 dX3_comesRound_16 (by decide) (fun c_16 => (by exfalso; omega)) (fun c_16 => ?_)
        refine x_iload 4 dX3_comesRound_19 rfl ?_
        refine x_iload_n 2 dX3_comesRound_21 rfl rfl ?_
        refine x_iadd dX3_comesRound_22 (by unfold okI; omega) ?_
        refine x_sipush dX3_comesRound_23 (okI_c rfl) (by decide +kernel) ?_
        refine x_icmp_ge 51 dX3_comesRound_26 (by decide) (fun c_26 => (by exfalso; omega)) (fun c_26 => ?_)
        refine x_aload_n 0 dX3_comesRound_29 rfl rfl ?_
        refine x_get 0 dX3_comesRound_30 fl_X3_11 hm.1 rfl ?_
        refine x_iload 4 dX3_comesRound_33 rfl ?_
        refine x_iload_n 2 dX3_comesRound_35 rfl rfl ?_
        refine x_iadd dX3_comesRound_36 (by unfold okI; omega) ?_
        refine x_laload dX3_comesRound_37 hm.2.1 (by omega) (by omega) ?_
        refine x_aload_n 0 dX3_comesRound_38 rfl rfl ?_
        refine x_get 0 dX3_comesRound_39 fl_X3_11 hm.1 rfl ?_
        refine x_iload 4 dX3_comesRound_42 rfl ?_
        refine x_laload dX3_comesRound_44 hm.2.1 (by omega) (by omega) ?_
        refine x_lload_n 3 dX3_comesRound_45 rfl rfl ?_
        have e1 := hH (t + tu) (by omega) (by omega)
        have e2 := hH t (by omega) (by omega)
        have b2 := bH t (by omega) (by omega)
        refine x_ladd dX3_comesRound_46 (by unfold okJ; omega) ?_
        refine x_lc_eq 53 dX3_comesRound_47 dX3_comesRound_48 (by decide) (fun c_47 => ?_) (fun c_47 => ?_)
        · refine x_iinc 4 (L' := [(5, vI (t + 1)), (0, vA m), (1, vI fr), (2, vI tu), (3, vJ c)]) dX3_comesRound_53 rfl (by unfold okI; omega) (Nat.le_of_ble_eq_true rfl) rfl ?_
          refine x_goto 7 dX3_comesRound_56 (by decide) ?_
          exact EX.pick [1, 2, 3, 4, 0] rfl (ih_7 (t + 1)  (by omega) (by omega) (by omega) (fun y q1 q2 => by by_cases q : y < t; exact hall y q1 q; have e : y = t := (by omega); subst e; rw [← e1, ← e2]; exact c_47))
        · refine x_iconst dX3_comesRound_51 (okI_c rfl) ?_
          exact x_zreturn dX3_comesRound_52 rfl (Or.inl rfl) (by decide) (by decide) (retI (b2i_f (fun q => by have := q t ht0 (by omega); rw [← e1, ← e2] at this; exact c_47 this)).symm)
  exact EX.pick [1, 2, 3, 4, 0] rfl (loop_7 ((fr + tu - (x1 : Int)).toNat + 1) x1  (Nat.lt_succ_self _) (by omega) (by omega) (fun y q1 q2 => by omega))
set_option maxRecDepth 100000 in
set_option maxHeartbeats 4000000 in
theorem k_X3_also {G : aG} {d : Nat} (hd : 1 ≤ d) {h : aH} {m md on ot : Nat} {g f1 f2 : Nat → Int} (hm : MakAt h m md on ot g f1 f2) {H : Int → Int} {fr tu : Int} (hH : Tells g H (fr + 2 * tu)) (bH : Bnd H (fr + 2 * tu) 4000000000000000) (hfr : 0 ≤ fr) (htu : 1 ≤ tu) (hro : fr + 2 * tu ≤ 600) {s : Int} (hs1 : 1 ≤ s) (hs : s ≤ tu) : MC G mX3_alsoComesRoundBy d 0 0 [vA m, vI s, vI fr, vI tu] h (Ret (vI (b2i (∀ t : Int, fr ≤ t → t < fr + tu → H (t + s) = H t + (H (fr + s) - H fr)))) h) := by
  refine MC.of (by decide) (Nat.le_of_ble_eq_true rfl) (fun ok okh => ?_)
  show EX G mX3_alsoComesRoundBy d 0 0 _ 0 [(0, vA m), (1, vI s), (2, vI fr), (3, vI tu)] [] h 0 0
  refine x_iload_n 2 dX3_alsoComesRoundBy_0 rfl rfl ?_
  refine x_if_lt 25 dX3_alsoComesRoundBy_1 (by decide) (fun c_1 => (by exfalso; omega)) (fun c_1 => ?_)
  refine x_iload_n 1 dX3_alsoComesRoundBy_4 rfl rfl ?_
  refine x_iconst dX3_alsoComesRoundBy_5 (okI_c rfl) ?_
  refine x_icmp_lt 25 dX3_alsoComesRoundBy_6 (by decide) (fun c_6 => (by exfalso; omega)) (fun c_6 => ?_)
  refine x_iload_n 3 dX3_alsoComesRoundBy_9 rfl rfl ?_
  refine x_iconst dX3_alsoComesRoundBy_10 (okI_c rfl) ?_
  refine x_icmp_lt 25 dX3_alsoComesRoundBy_11 (by decide) (fun c_11 => (by exfalso; omega)) (fun c_11 => ?_)
  refine x_iload_n 2 dX3_alsoComesRoundBy_14 rfl rfl ?_
  refine x_iload_n 3 dX3_alsoComesRoundBy_15 rfl rfl ?_
  refine x_iadd dX3_alsoComesRoundBy_16 (by unfold okI; omega) ?_
  refine x_iload_n 1 dX3_alsoComesRoundBy_17 rfl rfl ?_
  refine x_iadd dX3_alsoComesRoundBy_18 (by unfold okI; omega) ?_
  refine x_sipush dX3_alsoComesRoundBy_19 (okI_c rfl) (by decide +kernel) ?_
  refine x_icmp_le 27 dX3_alsoComesRoundBy_22 (by decide) (fun c_22 => ?_) (fun c_22 => (by exfalso; omega))
  refine x_aload_n 0 dX3_alsoComesRoundBy_27 rfl rfl ?_
  refine x_get 0 dX3_alsoComesRoundBy_28 fl_X3_11 hm.1 rfl ?_
  refine x_iload_n 2 dX3_alsoComesRoundBy_31 rfl rfl ?_
  refine x_iload_n 1 dX3_alsoComesRoundBy_32 rfl rfl ?_
  refine x_iadd dX3_alsoComesRoundBy_33 (by unfold okI; omega) ?_
  refine x_laload dX3_alsoComesRoundBy_34 hm.2.1 (by omega) (by omega) ?_
  refine x_aload_n 0 dX3_alsoComesRoundBy_35 rfl rfl ?_
  refine x_get 0 dX3_alsoComesRoundBy_36 fl_X3_11 hm.1 rfl ?_
  refine x_iload_n 2 dX3_alsoComesRoundBy_39 rfl rfl ?_
  refine x_laload dX3_alsoComesRoundBy_40 hm.2.1 (by omega) (by omega) ?_
  have g1 := hH (fr + s) (by omega) (by omega)
  have g2 := hH fr (by omega) (by omega)
  have gb1 := bH (fr + s) (by omega) (by omega)
  have gb2 := bH fr (by omega) (by omega)
  refine x_lsub dX3_alsoComesRoundBy_41 (by unfold okJ; omega) ?_
  refine x_nmJ (fun x1 e_x1 => ?_)
  refine x_lstore (L' := [(4, vJ x1), (0, vA m), (1, vI s), (2, vI fr), (3, vI tu)]) dX3_alsoComesRoundBy_42 (Nat.le_of_ble_eq_true rfl) rfl ?_
  refine x_iload_n 3 dX3_alsoComesRoundBy_44 rfl rfl ?_
  refine x_istore (L' := [(6, vI fr), (4, vJ x1), (0, vA m), (1, vI s), (2, vI fr), (3, vI tu)]) dX3_alsoComesRoundBy_45 (Nat.le_of_ble_eq_true rfl) rfl ?_
  have loop_47 : ∀ (k_47 : Nat) (t : Int) , (fr + tu - t).toNat < k_47 → fr ≤ t → t ≤ fr + tu → (∀ y : Int, fr ≤ y → y < t → H (y + s) = H y + x1) → EX G mX3_alsoComesRoundBy d 0 0 (Ret (vI (b2i (∀ t : Int, fr ≤ t → t < fr + tu → H (t + s) = H t + (H (fr + s) - H fr)))) h) 47 [(0, vA m), (1, vI s), (2, vI fr), (3, vI tu), (4, vJ x1), (6, vI t)] [] h 0 0 := by
    intro k_47
    induction k_47 with
    | zero => intro t hm; exact absurd hm (Nat.not_lt_zero _)
    | succ k_47 ih_47 =>
      intro t hm_47 ht0 ht1 hall
      refine x_iload 5 dX3_alsoComesRoundBy_47 rfl ?_
      refine x_iload_n 2 dX3_alsoComesRoundBy_49 rfl rfl ?_
      refine x_iload_n 3 dX3_alsoComesRoundBy_50 rfl rfl ?_
      refine x_iadd dX3_alsoComesRoundBy_51 (by unfold okI; omega) ?_
      refine x_icmp_ge 86 dX3_alsoComesRoundBy_52 (by decide) (fun c_52 => ?_) (fun c_52 => ?_)
      · refine x_iconst dX3_alsoComesRoundBy_86 (okI_c rfl) ?_
        exact x_zreturn dX3_alsoComesRoundBy_87 rfl (Or.inr rfl) (by decide) (by decide) (retI (b2i_t (fun y q1 q2 => by rw [hall y q1 (by omega), e_x1, g1, g2])).symm)
      · refine x_aload_n 0 dX3_alsoComesRoundBy_55 rfl rfl ?_
        refine x_get 0 dX3_alsoComesRoundBy_56 fl_X3_11 hm.1 rfl ?_
        refine x_iload 5 dX3_alsoComesRoundBy_59 rfl ?_
        refine x_iload_n 1 dX3_alsoComesRoundBy_61 rfl rfl ?_
        refine x_iadd dX3_alsoComesRoundBy_62 (by unfold okI; omega) ?_
        refine x_laload dX3_alsoComesRoundBy_63 hm.2.1 (by omega) (by omega) ?_
        refine x_aload_n 0 dX3_alsoComesRoundBy_64 rfl rfl ?_
        refine x_get 0 dX3_alsoComesRoundBy_65 fl_X3_11 hm.1 rfl ?_
        refine x_iload 5 dX3_alsoComesRoundBy_68 rfl ?_
        refine x_laload dX3_alsoComesRoundBy_70 hm.2.1 (by omega) (by omega) ?_
        refine x_lload 4 dX3_alsoComesRoundBy_71 rfl ?_
        have e1 := hH (t + s) (by omega) (by omega)
        have e2 := hH t (by omega) (by omega)
        have b2 := bH t (by omega) (by omega)
        refine x_ladd dX3_alsoComesRoundBy_73 (by unfold okJ; omega) ?_
        refine x_lc_eq 80 dX3_alsoComesRoundBy_74 dX3_alsoComesRoundBy_75 (by decide) (fun c_74 => ?_) (fun c_74 => ?_)
        · refine x_iinc 5 (L' := [(6, vI (t + 1)), (0, vA m), (1, vI s), (2, vI fr), (3, vI tu), (4, vJ x1)]) dX3_alsoComesRoundBy_80 rfl (by unfold okI; omega) (Nat.le_of_ble_eq_true rfl) rfl ?_
          refine x_goto 47 dX3_alsoComesRoundBy_83 (by decide) ?_
          exact EX.pick [1, 2, 3, 4, 5, 0] rfl (ih_47 (t + 1)  (by omega) (by omega) (by omega) (fun y q1 q2 => by by_cases q : y < t; exact hall y q1 q; have e : y = t := (by omega); subst e; rw [← e1, ← e2]; exact c_74))
        · refine x_iconst dX3_alsoComesRoundBy_78 (okI_c rfl) ?_
          exact x_zreturn dX3_alsoComesRoundBy_79 rfl (Or.inl rfl) (by decide) (by decide) (retI (b2i_f (fun q => by have := q t ht0 (by omega); rw [← e1, ← e2, ← g1, ← g2, ← e_x1] at this; exact c_74 this)).symm)
  exact EX.pick [2, 3, 4, 5, 1, 0] rfl (loop_47 ((fr + tu - (fr : Int)).toNat + 1) fr  (Nat.lt_succ_self _) (by omega) (by omega) (fun y q1 q2 => by omega))
/-- the least step by which a row comes round in a turn -/
def LStep (H : Int → Int) (fr tu s : Int) : Prop := 1 ≤ s ∧ s ≤ tu ∧ (s < tu → ∀ t : Int, fr ≤ t → t < fr + tu → H (t + s) = H t + (H (fr + s) - H fr)) ∧ ∀ e : Int, 1 ≤ e → e < s → ¬ ∀ t : Int, fr ≤ t → t < fr + tu → H (t + e) = H t + (H (fr + e) - H fr)
theorem b2i_ne {P : Prop} (h : b2i P ≠ 0) : P := by
  by_cases q : P
  · exact q
  · exact absurd (b2i_f q) h
theorem b2i_eq {P : Prop} (h : b2i P = 0) : ¬ P := fun q => by rw [b2i_t q] at h; omega
set_option maxRecDepth 100000 in
set_option maxHeartbeats 4000000 in
theorem k_X3_leastStep {G : aG} {d : Nat} (hd : 2 ≤ d) {h : aH} {m md on ot : Nat} {g f1 f2 : Nat → Int} (hm : MakAt h m md on ot g f1 f2) {H : Int → Int} {fr tu : Int} (hH : Tells g H (fr + 2 * tu)) (bH : Bnd H (fr + 2 * tu) 4000000000000000) (hfr : 0 ≤ fr) (htu : 1 ≤ tu) (hro : fr + 2 * tu ≤ 600) : MC G mX3_leastStep d 0 0 [vA m, vI fr, vI tu] h (fun r' h' => ∃ s : Int, r' = some (vI s) ∧ h' = h ∧ LStep H fr tu s) := by
  refine MC.of (by decide) (Nat.le_of_ble_eq_true rfl) (fun ok okh => ?_)
  show EX G mX3_leastStep d 0 0 _ 0 [(0, vA m), (1, vI fr), (2, vI tu)] [] h 0 0
  refine x_iconst dX3_leastStep_0 (okI_c rfl) ?_
  refine x_istore_n (L' := [(3, vI 1), (0, vA m), (1, vI fr), (2, vI tu)]) dX3_leastStep_1 rfl (Nat.le_of_ble_eq_true rfl) rfl ?_
  have loop_2 : ∀ (k_2 : Nat) (s : Int) , (tu - s).toNat < k_2 → 1 ≤ s → s ≤ tu → (∀ e : Int, 1 ≤ e → e < s → ¬ (∀ t : Int, fr ≤ t → t < fr + tu → H (t + e) = H t + (H (fr + e) - H fr))) → EX G mX3_leastStep d 0 0 (fun r' h' => ∃ s : Int, r' = some (vI s) ∧ h' = h ∧ LStep H fr tu s) 2 [(0, vA m), (1, vI fr), (2, vI tu), (3, vI s)] [] h 0 0 := by
    intro k_2
    induction k_2 with
    | zero => intro s hm; exact absurd hm (Nat.not_lt_zero _)
    | succ k_2 ih_2 =>
      intro s hm_2 hs1 hs2 hall
      refine x_iload_n 3 dX3_leastStep_2 rfl rfl ?_
      refine x_iload_n 2 dX3_leastStep_3 rfl rfl ?_
      refine x_icmp_ge 25 dX3_leastStep_4 (by decide) (fun c_4 => ?_) (fun c_4 => ?_)
      · refine x_iload_n 2 dX3_leastStep_25 rfl rfl ?_
        exact x_ireturn dX3_leastStep_26 rfl (by decide) (by decide) ⟨tu, rfl, rfl, by omega, by omega, fun q => by omega, fun e q1 q2 => hall e q1 (by omega)⟩
      · refine x_aload_n 0 dX3_leastStep_7 rfl rfl ?_
        refine x_iload_n 3 dX3_leastStep_8 rfl rfl ?_
        refine x_iload_n 1 dX3_leastStep_9 rfl rfl ?_
        refine x_iload_n 2 dX3_leastStep_10 rfl rfl ?_
        refine x_callV [vI s, vI fr, vI tu] dX3_leastStep_11 kv_X3_103 rfl rfl hm.1 (by omega) (Nat.le_of_ble_eq_true rfl) (by omega) (by omega) (k_X3_also (d := 1) (by omega) hm hH bH hfr htu hro (s := s) hs1 (by omega)) (after_ret ?_)
        refine x_if_eq 19 dX3_leastStep_14 (by decide) (fun c_14 => ?_) (fun c_14 => ?_)
        · refine x_iinc 3 (L' := [(3, vI (s + 1)), (0, vA m), (1, vI fr), (2, vI tu)]) dX3_leastStep_19 rfl (by unfold okI; omega) (Nat.le_of_ble_eq_true rfl) rfl ?_
          refine x_goto 2 dX3_leastStep_22 (by decide) ?_
          exact EX.pick [1, 2, 3, 0] rfl (ih_2 (s + 1)  (by omega) (by omega) (by omega) (fun e q1 q2 => by by_cases q : e < s; exact hall e q1 q; have e2 : e = s := (by omega); subst e2; exact b2i_eq c_14))
        · refine x_iload_n 3 dX3_leastStep_17 rfl rfl ?_
          exact x_ireturn dX3_leastStep_18 rfl (by decide) (by decide) ⟨s, rfl, rfl, hs1, hs2, fun _ => b2i_ne c_14, hall⟩
  exact EX.pick [1, 2, 3, 0] rfl (loop_2 ((tu - (1 : Int)).toNat + 1) 1  (Nat.lt_succ_self _) (by omega) (by omega) (fun e q1 q2 => by omega))
