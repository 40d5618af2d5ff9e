/-! ===== FlowCurves: the constructor ===== -/
set_option maxRecDepth 100000 in
set_option maxHeartbeats 4000000 in
theorem k_X8_init {G : aG} {d : Nat} (hd : 1 ≤ d) {h : aH} {r : Nat} (hr : h r = some (eO 7 [vN])) : MC G mX8_init d 1 5 [vA r] h (fun r' h' => r' = none ∧ ∃ q : Nat, Aft h q ∧ h' = hset (hset h q (eI 5 (fun _ => 0))) r (eO 7 [vA q])) := by
  refine MC.of (by decide) (Nat.le_of_ble_eq_true rfl) (fun ok okh => ?_)
  show EX G mX8_init d 1 5 _ 0 [(0, vA r)] [] h 0 0
  refine x_aload_n 0 dX8_init_0 rfl rfl ?_
  refine x_objInit dX8_init_1 ko_X8_3 (by omega) (Nat.le_of_ble_eq_true rfl) ?_
  refine x_aload_n 0 dX8_init_4 rfl rfl ?_
  refine x_iconst dX8_init_5 (okI_c rfl) ?_
  refine x_newI dX8_init_6 (by omega) (by omega) (by omega) (by omega) (fun q n_q l_q => ?_)
  refine x_putF 0 dX8_init_8 rfl pu_X8_9 ((hset_ne _ _ (fun z => by rw [z, n_q] at hr; cases hr)).trans hr) rfl rfl (Nat.le_of_ble_eq_true rfl) ?_
  exact x_return dX8_init_11 rfl (by omega) (by omega) ⟨rfl, q, ⟨n_q, l_q⟩, rfl⟩
set_option maxRecDepth 100000 in
set_option maxHeartbeats 4000000 in
theorem k_X9_init {G : aG} {d : Nat} (hd : 3 ≤ d) {h : aH} {x : Nat} (hx : h x = some (eO 8 [vN, vI 0, vI 0, vN, vI 0, vN, vI 0, vN, vN, vI 0])) : MC G mX9_init d 10 2232 [vA x] h (fun r' h' => r' = none ∧ ∃ ac ar rr cr ta tm mk md on ot : Nat, (x < ac ∧ ac < ar ∧ ar < rr ∧ rr < cr ∧ cr < ta ∧ ta < tm ∧ tm < mk ∧ mk < md ∧ md < on ∧ on < ot) ∧ h' x = some (eO 8 [vA ac, vI 0, vI 0, vA ar, vI 0, vA rr, vI ((-1)), vA ta, vA mk, vI 0]) ∧ h' ac = some (eR 60 (fun _ => none)) ∧ h' ar = some (eJ 300 (fun _ => 0)) ∧ h' rr = some (eO 5 [vA cr, vI 0]) ∧ h' cr = some (eJ 61 (fun _ => 0)) ∧ h' ta = some (eO 7 [vA tm]) ∧ h' tm = some (eI 5 (fun _ => 0)) ∧ h' mk = some (eO 3 [vA md, vA on, vA ot]) ∧ h' md = some (eJ 600 (fun _ => 0)) ∧ h' on = some (eJ 600 (fun _ => 0)) ∧ h' ot = some (eJ 600 (fun _ => 0)) ∧ ∀ b : Nat, b ≠ x → (h b).isSome = true → h' b = h b) := by
  refine MC.of (by decide) (Nat.le_of_ble_eq_true rfl) (fun ok okh => ?_)
  show EX G mX9_init d 10 2232 _ 0 [(0, vA x)] [] h 0 0
  refine x_aload_n 0 dX9_init_0 rfl rfl ?_
  refine x_objInit dX9_init_1 ko_X9_1 (by omega) (Nat.le_of_ble_eq_true rfl) ?_
  refine x_aload_n 0 dX9_init_4 rfl rfl ?_
  refine x_bipush dX9_init_5 (okI_c rfl) (by decide +kernel) ?_
  refine x_newR dX9_init_7 cl_X9_9 (by omega) (by omega) (by omega) (by omega) (fun ac n_ac l_ac => ?_)
  have o_ac : x < ac := l_ac x (isSome_of hx)
  refine x_putF 0 dX9_init_10 rfl pu_X9_11 ((hset_ne _ _ (by omega)).trans hx) rfl rfl (Nat.le_of_ble_eq_true rfl) ?_
  refine x_aload_n 0 dX9_init_13 rfl rfl ?_
  refine x_iconst dX9_init_14 (okI_c rfl) ?_
  refine x_put 1 dX9_init_15 pu_X9_15 (hset_eq _ _ _) rfl rfl (Nat.le_of_ble_eq_true rfl) ?_
  refine x_aload_n 0 dX9_init_18 rfl rfl ?_
  refine x_iconst dX9_init_19 (okI_c rfl) ?_
  refine x_put 2 dX9_init_20 pu_X9_19 (hset_eq _ _ _) (by decide +kernel) (by decide +kernel) (Nat.le_of_ble_eq_true rfl) ?_
  refine x_aload_n 0 dX9_init_23 rfl rfl ?_
  refine x_sipush dX9_init_24 (okI_c rfl) (by decide +kernel) ?_
  refine x_newJ dX9_init_27 (by omega) (by omega) (by omega) (by omega) (fun ar n_ar l_ar => ?_)
  have o_ar : ac < ar := l_ar ac (isSome_of ((hset_ne _ _ (by omega)).trans ((hset_ne _ _ (by omega)).trans ((hset_ne _ _ (by omega)).trans (hset_eq _ _ _)))))
  refine x_putF 3 dX9_init_29 rfl pu_X9_23 ((hset_ne _ _ (by omega)).trans (hset_eq _ _ _)) rfl rfl (Nat.le_of_ble_eq_true rfl) ?_
  refine x_aload_n 0 dX9_init_32 rfl rfl ?_
  refine x_iconst dX9_init_33 (okI_c rfl) ?_
  refine x_put 4 dX9_init_34 pu_X9_27 (hset_eq _ _ _) rfl rfl (Nat.le_of_ble_eq_true rfl) ?_
  refine x_aload_n 0 dX9_init_37 rfl rfl ?_
  refine x_newN 2 dX9_init_38 nw_X9_30 rfl (by omega) (by omega) (fun rr n_rr l_rr => ?_)
  have o_rr : ar < rr := l_rr ar (isSome_of ((hset_ne _ _ (by omega)).trans ((hset_ne _ _ (by omega)).trans (hset_eq _ _ _))))
  refine x_dup dX9_init_41 rfl ?_
  refine x_callIN [] dX9_init_42 kn_X9_32 rfl rfl (by omega) (Nat.le_of_ble_eq_true rfl) (by omega) (by omega) (k_X6_init (d := 1) (by omega) (r := rr) (hset_eq _ _ _)) (fun r1 h1 q1 => ?_)
  obtain ⟨rfl, cr, ⟨n_cr, l_cr⟩, rfl⟩ := q1
  have o_cr : rr < cr := l_cr rr (isSome_of (hset_eq _ _ _))
  show EX G mX9_init d 10 2232 _ _ _ [vA rr, vA x] _ _ _
  refine x_putF 5 dX9_init_45 rfl pu_X9_33 ((hset_ne _ _ (by omega)).trans ((hset_ne _ _ (by omega)).trans ((hset_ne _ _ (by omega)).trans (hset_eq _ _ _)))) rfl rfl (Nat.le_of_ble_eq_true rfl) ?_
  refine x_aload_n 0 dX9_init_48 rfl rfl ?_
  refine x_iconst dX9_init_49 (okI_c rfl) ?_
  refine x_put 6 dX9_init_50 pu_X9_37 (hset_eq _ _ _) rfl rfl (Nat.le_of_ble_eq_true rfl) ?_
  refine x_aload_n 0 dX9_init_53 rfl rfl ?_
  refine x_newN 1 dX9_init_54 nw_X9_40 rfl (by omega) (by omega) (fun ta n_ta l_ta => ?_)
  have o_ta : cr < ta := l_ta cr (isSome_of ((hset_ne _ _ (by omega)).trans ((hset_ne _ _ (by omega)).trans ((hset_ne _ _ (by omega)).trans (hset_eq _ _ _)))))
  refine x_dup dX9_init_57 rfl ?_
  refine x_callIN [] dX9_init_58 kn_X9_42 rfl rfl (by omega) (Nat.le_of_ble_eq_true rfl) (by omega) (by omega) (k_X8_init (d := 1) (by omega) (r := ta) (hset_eq _ _ _)) (fun r1 h1 q1 => ?_)
  obtain ⟨rfl, tm, ⟨n_tm, l_tm⟩, rfl⟩ := q1
  have o_tm : ta < tm := l_tm ta (isSome_of (hset_eq _ _ _))
  show EX G mX9_init d 10 2232 _ _ _ [vA ta, vA x] _ _ _
  refine x_putF 7 dX9_init_61 rfl pu_X9_43 ((hset_ne _ _ (by omega)).trans ((hset_ne _ _ (by omega)).trans ((hset_ne _ _ (by omega)).trans (hset_eq _ _ _)))) rfl rfl (Nat.le_of_ble_eq_true rfl) ?_
  refine x_aload_n 0 dX9_init_64 rfl rfl ?_
  refine x_newN 3 dX9_init_65 nw_X9_47 rfl (by omega) (by omega) (fun mk n_mk l_mk => ?_)
  have o_mk : tm < mk := l_mk tm (isSome_of ((hset_ne _ _ (by omega)).trans ((hset_ne _ _ (by omega)).trans (hset_eq _ _ _))))
  refine x_dup dX9_init_68 rfl ?_
  refine x_callIN [] dX9_init_69 kn_X9_49 rfl rfl (by omega) (Nat.le_of_ble_eq_true rfl) (by omega) (by omega) (k_X3_init (d := 1) (by omega) (m := mk) (hset_eq _ _ _)) (fun r1 h1 q1 => ?_)
  obtain ⟨rfl, md, on, ot, o_on, o_ot, ⟨n_md, l_md⟩, n_on, n_ot, rfl⟩ := q1
  have o_md : mk < md := l_md mk (isSome_of (hset_eq _ _ _))
  show EX G mX9_init d 10 2232 _ _ _ [vA mk, vA x] _ _ _
  refine x_putF 8 dX9_init_72 rfl pu_X9_50 ((hset_ne _ _ (by omega)).trans ((hset_ne _ _ (by omega)).trans ((hset_ne _ _ (by omega)).trans ((hset_ne _ _ (by omega)).trans ((hset_ne _ _ (by omega)).trans (hset_eq _ _ _)))))) rfl rfl (Nat.le_of_ble_eq_true rfl) ?_
  refine x_aload_n 0 dX9_init_75 rfl rfl ?_
  refine x_iconst dX9_init_76 (okI_c rfl) ?_
  refine x_put 9 dX9_init_77 pu_X9_54 (hset_eq _ _ _) rfl rfl (Nat.le_of_ble_eq_true rfl) ?_
  exact x_return dX9_init_80 rfl (by omega) (by omega) ⟨rfl, ac, ar, rr, cr, ta, tm, mk, md, on, ot, ⟨o_ac, o_ar, o_rr, o_cr, o_ta, o_tm, o_mk, o_md, o_on, o_ot⟩, (hset_eq _ _ _), ((hset_ne _ _ (by omega)).trans ((hset_ne _ _ (by omega)).trans ((hset_ne _ _ (by omega)).trans ((hset_ne _ _ (by omega)).trans ((hset_ne _ _ (by omega)).trans ((hset_ne _ _ (by omega)).trans ((hset_ne _ _ (by omega)).trans ((hset_ne _ _ (by omega)).trans ((hset_ne _ _ (by omega)).trans ((hset_ne _ _ (by omega)).trans ((hset_ne _ _ (by omega)).trans ((hset_ne _ _ (by omega)).trans ((hset_ne _ _ (by omega)).trans ((hset_ne _ _ (by omega)).trans ((hset_ne _ _ (by omega)).trans ((hset_ne _ _ (by omega)).trans ((hset_ne _ _ (by omega)).trans ((hset_ne _ _ (by omega)).trans ((hset_ne _ _ (by omega)).trans ((hset_ne _ _ (by omega)).trans ((hset_ne _ _ (by omega)).trans ((hset_ne _ _ (by omega)).trans (hset_eq _ _ _))))))))))))))))))))))), ((hset_ne _ _ (by omega)).trans ((hset_ne _ _ (by omega)).trans ((hset_ne _ _ (by omega)).trans ((hset_ne _ _ (by omega)).trans ((hset_ne _ _ (by omega)).trans ((hset_ne _ _ (by omega)).trans ((hset_ne _ _ (by omega)).trans ((hset_ne _ _ (by omega)).trans ((hset_ne _ _ (by omega)).trans ((hset_ne _ _ (by omega)).trans ((hset_ne _ _ (by omega)).trans ((hset_ne _ _ (by omega)).trans ((hset_ne _ _ (by omega)).trans ((hset_ne _ _ (by omega)).trans ((hset_ne _ _ (by omega)).trans ((hset_ne _ _ (by omega)).trans ((hset_ne _ _ (by omega)).trans ((hset_ne _ _ (by omega)).trans (hset_eq _ _ _))))))))))))))))))), ((hset_ne _ _ (by omega)).trans ((hset_ne _ _ (by omega)).trans ((hset_ne _ _ (by omega)).trans ((hset_ne _ _ (by omega)).trans ((hset_ne _ _ (by omega)).trans ((hset_ne _ _ (by omega)).trans ((hset_ne _ _ (by omega)).trans ((hset_ne _ _ (by omega)).trans ((hset_ne _ _ (by omega)).trans ((hset_ne _ _ (by omega)).trans ((hset_ne _ _ (by omega)).trans ((hset_ne _ _ (by omega)).trans ((hset_ne _ _ (by omega)).trans (hset_eq _ _ _)))))))))))))), ((hset_ne _ _ (by omega)).trans ((hset_ne _ _ (by omega)).trans ((hset_ne _ _ (by omega)).trans ((hset_ne _ _ (by omega)).trans ((hset_ne _ _ (by omega)).trans ((hset_ne _ _ (by omega)).trans ((hset_ne _ _ (by omega)).trans ((hset_ne _ _ (by omega)).trans ((hset_ne _ _ (by omega)).trans ((hset_ne _ _ (by omega)).trans ((hset_ne _ _ (by omega)).trans ((hset_ne _ _ (by omega)).trans ((hset_ne _ _ (by omega)).trans ((hset_ne _ _ (by omega)).trans (hset_eq _ _ _))))))))))))))), ((hset_ne _ _ (by omega)).trans ((hset_ne _ _ (by omega)).trans ((hset_ne _ _ (by omega)).trans ((hset_ne _ _ (by omega)).trans ((hset_ne _ _ (by omega)).trans ((hset_ne _ _ (by omega)).trans ((hset_ne _ _ (by omega)).trans ((hset_ne _ _ (by omega)).trans (hset_eq _ _ _))))))))), ((hset_ne _ _ (by omega)).trans ((hset_ne _ _ (by omega)).trans ((hset_ne _ _ (by omega)).trans ((hset_ne _ _ (by omega)).trans ((hset_ne _ _ (by omega)).trans ((hset_ne _ _ (by omega)).trans ((hset_ne _ _ (by omega)).trans ((hset_ne _ _ (by omega)).trans ((hset_ne _ _ (by omega)).trans (hset_eq _ _ _)))))))))), ((hset_ne _ _ (by omega)).trans ((hset_ne _ _ (by omega)).trans (hset_eq _ _ _))), ((hset_ne _ _ (by omega)).trans ((hset_ne _ _ (by omega)).trans ((hset_ne _ _ (by omega)).trans ((hset_ne _ _ (by omega)).trans ((hset_ne _ _ (by omega)).trans (hset_eq _ _ _)))))), ((hset_ne _ _ (by omega)).trans ((hset_ne _ _ (by omega)).trans ((hset_ne _ _ (by omega)).trans ((hset_ne _ _ (by omega)).trans (hset_eq _ _ _))))), ((hset_ne _ _ (by omega)).trans ((hset_ne _ _ (by omega)).trans ((hset_ne _ _ (by omega)).trans (hset_eq _ _ _)))), fun b hb hs => by have z := l_ac b hs; rw [hset_ne _ _ (by omega)]; rw [hset_ne _ _ (by omega)]; rw [hset_ne _ _ (by omega)]; rw [hset_ne _ _ (by omega)]; rw [hset_ne _ _ (by omega)]; rw [hset_ne _ _ (by omega)]; rw [hset_ne _ _ (by omega)]; rw [hset_ne _ _ (by omega)]; rw [hset_ne _ _ (by omega)]; rw [hset_ne _ _ (by omega)]; rw [hset_ne _ _ (by omega)]; rw [hset_ne _ _ (by omega)]; rw [hset_ne _ _ (by omega)]; rw [hset_ne _ _ (by omega)]; rw [hset_ne _ _ (by omega)]; rw [hset_ne _ _ (by omega)]; rw [hset_ne _ _ (by omega)]; rw [hset_ne _ _ (by omega)]; rw [hset_ne _ _ (by omega)]; rw [hset_ne _ _ (by omega)]; rw [hset_ne _ _ (by omega)]; rw [hset_ne _ _ (by omega)]; rw [hset_ne _ _ (by omega)]⟩
