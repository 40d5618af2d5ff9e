/-! ===== Maker: the making of curves ===== -/
set_option maxRecDepth 100000 in
set_option maxHeartbeats 4000000 in
theorem k_copyOf {G : aG} {d : Nat} (hd : 1 ≤ d) {h : aH} {a N : Nat} {f : Nat → Int} (ha : h a = some (eJ N f)) {n : Int} (hn0 : 0 ≤ n) (hn : n < N) (hN : N ≤ 600) (hn2 : n ≤ 260) : MC G mJ7_copyOf_c38d5 d 1 260 [vA a, vI n] h (fun r' h' => ∃ (q : Nat) (f' : Nat → Int), Aft h q ∧ r' = some (vA q) ∧ h' = hset h q (eJ n.toNat f') ∧ ∀ k : Int, 0 ≤ k → k < n → f' k.toNat = f k.toNat) := by
  refine MC.of (by decide) (Nat.le_of_ble_eq_true rfl) (fun ok okh => ?_)
  show EX G mJ7_copyOf_c38d5 d 1 260 _ 0 [(0, vA a), (1, vI n)] [] h 0 0
  refine x_iload_n 1 dJ7_copyOf_c38d5_0 rfl rfl ?_
  refine x_aload_n 0 dJ7_copyOf_c38d5_1 rfl rfl ?_
  refine x_alenJ dJ7_copyOf_c38d5_2 ha (by omega) ?_
  refine x_icmp_ne 14 dJ7_copyOf_c38d5_3 (by decide) (fun c_3 => ?_) (fun c_3 => (by exfalso; omega))
  refine x_iload_n 1 dJ7_copyOf_c38d5_14 rfl rfl ?_
  refine x_newJ dJ7_copyOf_c38d5_15 (by omega) (by omega) (by omega) (by omega) (fun q n_q l_q => ?_)
  refine x_astore_n (L' := [(2, vA q), (0, vA a), (1, vI n)]) dJ7_copyOf_c38d5_17 rfl (Nat.le_of_ble_eq_true rfl) rfl ?_
  refine x_aload_n 1 dJ7_copyOf_c38d5_18 rfl rfl ?_
  refine x_iconst dJ7_copyOf_c38d5_19 (okI_c rfl) ?_
  refine x_aload_n 0 dJ7_copyOf_c38d5_20 rfl rfl ?_
  refine x_iconst dJ7_copyOf_c38d5_21 (okI_c rfl) ?_
  refine x_aload_n 1 dJ7_copyOf_c38d5_22 rfl rfl ?_
  refine x_alenJ dJ7_copyOf_c38d5_23 ((hset_ne _ _ (fun z => by rw [z, n_q] at ha; cases ha)).trans ha) (by omega) ?_
  refine x_iload_n 2 dJ7_copyOf_c38d5_24 rfl rfl ?_
  refine x_minI dJ7_copyOf_c38d5_25 km_J7_304 (by omega) (Nat.le_of_ble_eq_true rfl) (by omega) (by omega) ?_
  refine x_copyJ dJ7_copyOf_c38d5_28 km_J7_150 ((hset_ne _ _ (fun z => by rw [z, n_q] at ha; cases ha)).trans ha) (hset_eq _ _ _) (by omega) (by omega) (by omega) (by omega) (Nat.le_of_ble_eq_true rfl) ?_
  refine x_aload_n 0 dJ7_copyOf_c38d5_31 rfl rfl ?_
  exact x_areturn (r := some q) dJ7_copyOf_c38d5_32 rfl (by first | exact Or.inl ⟨_, rfl⟩ | exact Or.inr ⟨_, rfl⟩) (by omega) (by omega) ⟨q, _, ⟨n_q, l_q⟩, rfl, by rw [hset_hset], fun k q1 q2 => by simp only [va_cpy]; rw [if_pos (by omega)]; congr 1; omega⟩
set_option maxRecDepth 100000 in
set_option maxHeartbeats 4000000 in
theorem k_X3_kind {G : aG} {d : Nat} (hd : 4 ≤ d) {h : aH} {a : Nat} {T D C : Int} {am : Nat → Int} (ha : h a = some (eJ (T + D).toNat am)) (hok : CvOk T D C am) : MC G mX3_ofItsKind d 1 5 [vI T, vI D, vI C, vA a] h (fun r' h' => ∃ (c ci : Nat) (ld : Int), Aft h c ∧ r' = some (vA c) ∧ h' = hset h c (eO ci (cvF ci T D C a ld)) ∧ ci ∈ [0, 1, 2, 4, 6] ∧ KindOk ci T D C am ld) := by
  obtain ⟨hT0, hT2, hD0, hD6, hC0, hC1, hA, hM, hW⟩ := id hok
  have z0 : am (0 : Int).toNat = am 0 := rfl
  have z1 : am (1 : Int).toNat = am 1 := rfl
  have zl : D = 1 → am (T + D - 1).toNat = am T.toNat := fun z => by rw [z]; congr 1; omega
  have zt : T = 0 → am T.toNat = am 0 := fun z => by rw [z]; rfl
  have zs : T = 0 → am (T + D - 1).toNat = am (D - 1).toNat := fun z => by rw [z]; congr 1; omega
  have hb0 := hA 0 (by omega) (by omega)
  refine MC.of (by decide) (Nat.le_of_ble_eq_true rfl) (fun ok okh => ?_)
  show EX G mX3_ofItsKind d 1 5 _ 0 [(0, vI T), (1, vI D), (2, vI C), (3, vA a)] [] h 0 0
  have cut_177 : ∀ (z : Int) (l : Int), (z = 1 ∧ am 0 = 0 ∨ z = 0 ∧ am 0 ≠ 0) → (l = 1 ∧ am (T + D - 1).toNat = 0 ∨ l = 0 ∧ am (T + D - 1).toNat ≠ 0) → ¬ (D = 1 ∧ T = 1 ∧ am 0 = 0 ∧ C < am 1) → ¬ (D = 1 ∧ T = 0 ∧ am 0 = 0) → ¬ (D = 1 ∧ 0 < T ∧ 0 < C ∧ am T.toNat = 0) → ¬ (1 < D ∧ T = 0 ∧ 0 < C ∧ am (D - 1).toNat = 0) → EX G mX3_ofItsKind d 1 5 (fun r' h' => ∃ (c ci : Nat) (ld : Int), Aft h c ∧ r' = some (vA c) ∧ h' = hset h c (eO ci (cvF ci T D C a ld)) ∧ ci ∈ [0, 1, 2, 4, 6] ∧ KindOk ci T D C am ld) 177 [(0, vI T), (1, vI D), (2, vI C), (3, vA a), (4, vI z), (5, vI l)] [] h 0 0 := by
    intro z l hz hl n1 n2 n3 n4
    refine x_newN 4 dX3_ofItsKind_177 nw_X3_26 rfl (by omega) (by omega) (fun c n_c l_c => ?_)
    refine x_dup dX3_ofItsKind_180 rfl ?_
    refine x_iload_n 0 dX3_ofItsKind_181 rfl rfl ?_
    refine x_iload_n 1 dX3_ofItsKind_182 rfl rfl ?_
    refine x_iload_n 2 dX3_ofItsKind_183 rfl rfl ?_
    refine x_aload_n 3 dX3_ofItsKind_184 rfl rfl ?_
    refine x_callI [vI T, vI D, vI C, vA a] dX3_ofItsKind_185 ki_X3_123 rfl rfl (by omega) (Nat.le_of_ble_eq_true rfl) (by omega) (by omega) (k_X1_init (d := 1) (by omega) (hset_eq _ _ _) (by decide)) (after_void ?_)
    exact x_areturn (r := some c) dX3_ofItsKind_188 rfl (by first | exact Or.inl ⟨_, rfl⟩ | exact Or.inr ⟨_, rfl⟩) (by omega) (by omega) ⟨c, 1, 0, ⟨n_c, l_c⟩, rfl, hset_hset _ _ _ _, by decide, by rw [kindS, if_neg n1, if_neg n2, if_neg n3, if_neg n4]; rfl, fun z => absurd z (by decide)⟩
  have cut_147 : ∀ (z : Int) (l : Int), (z = 1 ∧ am 0 = 0 ∨ z = 0 ∧ am 0 ≠ 0) → (l = 1 ∧ am (T + D - 1).toNat = 0 ∨ l = 0 ∧ am (T + D - 1).toNat ≠ 0) → ¬ (D = 1 ∧ T = 1 ∧ am 0 = 0 ∧ C < am 1) → ¬ (D = 1 ∧ T = 0 ∧ am 0 = 0) → ¬ (D = 1 ∧ 0 < T ∧ 0 < C ∧ am T.toNat = 0) → EX G mX3_ofItsKind d 1 5 (fun r' h' => ∃ (c ci : Nat) (ld : Int), Aft h c ∧ r' = some (vA c) ∧ h' = hset h c (eO ci (cvF ci T D C a ld)) ∧ ci ∈ [0, 1, 2, 4, 6] ∧ KindOk ci T D C am ld) 147 [(0, vI T), (1, vI D), (2, vI C), (3, vA a), (4, vI z), (5, vI l)] [] h 0 0 := by
    intro z l hz hl n1 n2 n3
    refine x_iload_n 1 dX3_ofItsKind_147 rfl rfl ?_
    refine x_iconst dX3_ofItsKind_148 (okI_c rfl) ?_
    refine x_icmp_le 177 dX3_ofItsKind_149 (by decide) (fun c_149 => ?_) (fun c_149 => ?_)
    · exact EX.pick [0, 1, 2, 3, 4, 5] rfl (cut_177 z l hz hl n1 n2 n3 (by omega))
    · refine x_iload_n 0 dX3_ofItsKind_152 rfl rfl ?_
      refine x_if_ne 177 dX3_ofItsKind_153 (by decide) (fun c_153 => ?_) (fun c_153 => ?_)
      · exact EX.pick [0, 1, 2, 3, 4, 5] rfl (cut_177 z l hz hl n1 n2 n3 (by omega))
      · refine x_iload 5 dX3_ofItsKind_156 rfl ?_
        refine x_if_eq 177 dX3_ofItsKind_158 (by decide) (fun c_158 => ?_) (fun c_158 => ?_)
        · exact EX.pick [0, 1, 2, 3, 4, 5] rfl (cut_177 z l hz hl n1 n2 n3 (by omega))
        · refine x_iload_n 2 dX3_ofItsKind_161 rfl rfl ?_
          refine x_if_le 177 dX3_ofItsKind_162 (by decide) (fun c_162 => ?_) (fun c_162 => ?_)
          · exact EX.pick [0, 1, 2, 3, 4, 5] rfl (cut_177 z l hz hl n1 n2 n3 (by omega))
          · refine x_newN 4 dX3_ofItsKind_165 nw_X3_120 rfl (by omega) (by omega) (fun c n_c l_c => ?_)
            refine x_dup dX3_ofItsKind_168 rfl ?_
            refine x_iload_n 0 dX3_ofItsKind_169 rfl rfl ?_
            refine x_iload_n 1 dX3_ofItsKind_170 rfl rfl ?_
            refine x_iload_n 2 dX3_ofItsKind_171 rfl rfl ?_
            refine x_aload_n 3 dX3_ofItsKind_172 rfl rfl ?_
            refine x_callI [vI T, vI D, vI C, vA a] dX3_ofItsKind_173 ki_X3_122 rfl rfl (by omega) (Nat.le_of_ble_eq_true rfl) (by omega) (by omega) (k_X7_init (d := 2) (by omega) (hset_eq _ _ _)) (after_void ?_)
            exact x_areturn (r := some c) dX3_ofItsKind_176 rfl (by first | exact Or.inl ⟨_, rfl⟩ | exact Or.inr ⟨_, rfl⟩) (by omega) (by omega) ⟨c, 6, 0, ⟨n_c, l_c⟩, rfl, hset_hset _ _ _ _, by decide, by rw [kindS, if_neg n1, if_neg n2, if_neg n3, if_pos (by omega)]; rfl, fun z => absurd z (by decide)⟩
  have cut_117 : ∀ (z : Int) (l : Int), (z = 1 ∧ am 0 = 0 ∨ z = 0 ∧ am 0 ≠ 0) → (l = 1 ∧ am (T + D - 1).toNat = 0 ∨ l = 0 ∧ am (T + D - 1).toNat ≠ 0) → ¬ (D = 1 ∧ T = 1 ∧ am 0 = 0 ∧ C < am 1) → ¬ (D = 1 ∧ T = 0 ∧ am 0 = 0) → EX G mX3_ofItsKind d 1 5 (fun r' h' => ∃ (c ci : Nat) (ld : Int), Aft h c ∧ r' = some (vA c) ∧ h' = hset h c (eO ci (cvF ci T D C a ld)) ∧ ci ∈ [0, 1, 2, 4, 6] ∧ KindOk ci T D C am ld) 117 [(0, vI T), (1, vI D), (2, vI C), (3, vA a), (4, vI z), (5, vI l)] [] h 0 0 := by
    intro z l hz hl n1 n2
    refine x_iload_n 1 dX3_ofItsKind_117 rfl rfl ?_
    refine x_iconst dX3_ofItsKind_118 (okI_c rfl) ?_
    refine x_icmp_ne 147 dX3_ofItsKind_119 (by decide) (fun c_119 => ?_) (fun c_119 => ?_)
    · exact EX.pick [0, 1, 2, 3, 4, 5] rfl (cut_147 z l hz hl n1 n2 (by omega))
    · refine x_iload_n 0 dX3_ofItsKind_122 rfl rfl ?_
      refine x_if_le 147 dX3_ofItsKind_123 (by decide) (fun c_123 => ?_) (fun c_123 => ?_)
      · exact EX.pick [0, 1, 2, 3, 4, 5] rfl (cut_147 z l hz hl n1 n2 (by omega))
      · refine x_iload 5 dX3_ofItsKind_126 rfl ?_
        refine x_if_eq 147 dX3_ofItsKind_128 (by decide) (fun c_128 => ?_) (fun c_128 => ?_)
        · exact EX.pick [0, 1, 2, 3, 4, 5] rfl (cut_147 z l hz hl n1 n2 (by omega))
        · refine x_iload_n 2 dX3_ofItsKind_131 rfl rfl ?_
          refine x_if_le 147 dX3_ofItsKind_132 (by decide) (fun c_132 => ?_) (fun c_132 => ?_)
          · exact EX.pick [0, 1, 2, 3, 4, 5] rfl (cut_147 z l hz hl n1 n2 (by omega))
          · refine x_newN 4 dX3_ofItsKind_135 nw_X3_117 rfl (by omega) (by omega) (fun c n_c l_c => ?_)
            refine x_dup dX3_ofItsKind_138 rfl ?_
            refine x_iload_n 0 dX3_ofItsKind_139 rfl rfl ?_
            refine x_iload_n 1 dX3_ofItsKind_140 rfl rfl ?_
            refine x_iload_n 2 dX3_ofItsKind_141 rfl rfl ?_
            refine x_aload_n 3 dX3_ofItsKind_142 rfl rfl ?_
            refine x_callI [vI T, vI D, vI C, vA a] dX3_ofItsKind_143 ki_X3_119 rfl rfl (by omega) (Nat.le_of_ble_eq_true rfl) (by omega) (by omega) (k_X2_init (d := 2) (by omega) (hset_eq _ _ _)) (after_void ?_)
            exact x_areturn (r := some c) dX3_ofItsKind_146 rfl (by first | exact Or.inl ⟨_, rfl⟩ | exact Or.inr ⟨_, rfl⟩) (by omega) (by omega) ⟨c, 2, 0, ⟨n_c, l_c⟩, rfl, hset_hset _ _ _ _, by decide, by rw [kindS, if_neg n1, if_neg n2, if_pos (by omega)]; rfl, fun z => absurd z (by decide)⟩
  have cut_91 : ∀ (z : Int) (l : Int), (z = 1 ∧ am 0 = 0 ∨ z = 0 ∧ am 0 ≠ 0) → (l = 1 ∧ am (T + D - 1).toNat = 0 ∨ l = 0 ∧ am (T + D - 1).toNat ≠ 0) → ¬ (D = 1 ∧ T = 1 ∧ am 0 = 0 ∧ C < am 1) → EX G mX3_ofItsKind d 1 5 (fun r' h' => ∃ (c ci : Nat) (ld : Int), Aft h c ∧ r' = some (vA c) ∧ h' = hset h c (eO ci (cvF ci T D C a ld)) ∧ ci ∈ [0, 1, 2, 4, 6] ∧ KindOk ci T D C am ld) 91 [(0, vI T), (1, vI D), (2, vI C), (3, vA a), (4, vI z), (5, vI l)] [] h 0 0 := by
    intro z l hz hl n1
    refine x_iload_n 1 dX3_ofItsKind_91 rfl rfl ?_
    refine x_iconst dX3_ofItsKind_92 (okI_c rfl) ?_
    refine x_icmp_ne 117 dX3_ofItsKind_93 (by decide) (fun c_93 => ?_) (fun c_93 => ?_)
    · exact EX.pick [0, 1, 2, 3, 4, 5] rfl (cut_117 z l hz hl n1 (by omega))
    · refine x_iload_n 0 dX3_ofItsKind_96 rfl rfl ?_
      refine x_if_ne 117 dX3_ofItsKind_97 (by decide) (fun c_97 => ?_) (fun c_97 => ?_)
      · exact EX.pick [0, 1, 2, 3, 4, 5] rfl (cut_117 z l hz hl n1 (by omega))
      · refine x_iload 5 dX3_ofItsKind_100 rfl ?_
        refine x_if_eq 117 dX3_ofItsKind_102 (by decide) (fun c_102 => ?_) (fun c_102 => ?_)
        · exact EX.pick [0, 1, 2, 3, 4, 5] rfl (cut_117 z l hz hl n1 (by omega))
        · refine x_newN 4 dX3_ofItsKind_105 nw_X3_112 rfl (by omega) (by omega) (fun c n_c l_c => ?_)
          refine x_dup dX3_ofItsKind_108 rfl ?_
          refine x_iload_n 0 dX3_ofItsKind_109 rfl rfl ?_
          refine x_iload_n 1 dX3_ofItsKind_110 rfl rfl ?_
          refine x_iload_n 2 dX3_ofItsKind_111 rfl rfl ?_
          refine x_aload_n 3 dX3_ofItsKind_112 rfl rfl ?_
          refine x_callI [vI T, vI D, vI C, vA a] dX3_ofItsKind_113 ki_X3_114 rfl rfl (by omega) (Nat.le_of_ble_eq_true rfl) (by omega) (by omega) (k_X5_init (d := 2) (by omega) (by decide) (hset_eq _ _ _)) (after_void ?_)
          exact x_areturn (r := some c) dX3_ofItsKind_116 rfl (by first | exact Or.inl ⟨_, rfl⟩ | exact Or.inr ⟨_, rfl⟩) (by omega) (by omega) ⟨c, 4, 0, ⟨n_c, l_c⟩, rfl, hset_hset _ _ _ _, by decide, by rw [kindS, if_neg n1, if_pos (by omega)]; rfl, fun z => absurd z (by decide)⟩
  have cut_43 : ∀ (z : Int) (l : Int), (z = 1 ∧ am 0 = 0 ∨ z = 0 ∧ am 0 ≠ 0) → (l = 1 ∧ am (T + D - 1).toNat = 0 ∨ l = 0 ∧ am (T + D - 1).toNat ≠ 0) → EX G mX3_ofItsKind d 1 5 (fun r' h' => ∃ (c ci : Nat) (ld : Int), Aft h c ∧ r' = some (vA c) ∧ h' = hset h c (eO ci (cvF ci T D C a ld)) ∧ ci ∈ [0, 1, 2, 4, 6] ∧ KindOk ci T D C am ld) 43 [(0, vI T), (1, vI D), (2, vI C), (3, vA a), (4, vI z), (5, vI l)] [] h 0 0 := by
    intro z l hz hl
    refine x_iload_n 1 dX3_ofItsKind_43 rfl rfl ?_
    refine x_iconst dX3_ofItsKind_44 (okI_c rfl) ?_
    refine x_icmp_ne 91 dX3_ofItsKind_45 (by decide) (fun c_45 => ?_) (fun c_45 => ?_)
    · exact EX.pick [0, 1, 2, 3, 4, 5] rfl (cut_91 z l hz hl (by omega))
    · refine x_iload_n 0 dX3_ofItsKind_48 rfl rfl ?_
      refine x_iconst dX3_ofItsKind_49 (okI_c rfl) ?_
      refine x_icmp_ne 91 dX3_ofItsKind_50 (by decide) (fun c_50 => ?_) (fun c_50 => ?_)
      · exact EX.pick [0, 1, 2, 3, 4, 5] rfl (cut_91 z l hz hl (by omega))
      · refine x_iload 4 dX3_ofItsKind_53 rfl ?_
        refine x_if_eq 91 dX3_ofItsKind_55 (by decide) (fun c_55 => ?_) (fun c_55 => ?_)
        · exact EX.pick [0, 1, 2, 3, 4, 5] rfl (cut_91 z l hz hl (by omega))
        · refine x_aload_n 3 dX3_ofItsKind_58 rfl rfl ?_
          refine x_alenJ dX3_ofItsKind_59 ha (by omega) ?_
          refine x_asI (y := T + D) (by omega) ?_
          refine x_iconst dX3_ofItsKind_60 (okI_c rfl) ?_
          refine x_icmp_ne 91 dX3_ofItsKind_61 (by decide) (fun c_61 => ?_) (fun c_61 => ?_)
          · exact EX.pick [0, 1, 2, 3, 4, 5] rfl (cut_91 z l hz hl (by omega))
          · refine x_aload_n 3 dX3_ofItsKind_64 rfl rfl ?_
            refine x_iconst dX3_ofItsKind_65 (okI_c rfl) ?_
            refine x_laload dX3_ofItsKind_66 ha (by omega) (by omega) ?_
            refine x_iload_n 2 dX3_ofItsKind_67 rfl rfl ?_
            refine x_i2l dX3_ofItsKind_68 ?_
            refine x_lc_le 91 dX3_ofItsKind_69 dX3_ofItsKind_70 (by decide) (fun c_69 => ?_) (fun c_69 => ?_)
            · exact EX.pick [0, 1, 2, 3, 4, 5] rfl (cut_91 z l hz hl (by omega))
            · refine x_newN 5 dX3_ofItsKind_73 nw_X3_107 rfl (by omega) (by omega) (fun c n_c l_c => ?_)
              refine x_dup dX3_ofItsKind_76 rfl ?_
              refine x_iload_n 0 dX3_ofItsKind_77 rfl rfl ?_
              refine x_iload_n 1 dX3_ofItsKind_78 rfl rfl ?_
              refine x_iload_n 2 dX3_ofItsKind_79 rfl rfl ?_
              refine x_aload_n 3 dX3_ofItsKind_80 rfl rfl ?_
              refine x_aload_n 3 dX3_ofItsKind_81 rfl rfl ?_
              refine x_iconst dX3_ofItsKind_82 (okI_c rfl) ?_
              refine x_laload dX3_ofItsKind_83 ((hset_ne _ _ (fun z => by rw [z, n_c] at ha; cases ha)).trans ha) (by omega) (by omega) ?_
              refine x_iload_n 2 dX3_ofItsKind_84 rfl rfl ?_
              refine x_i2l dX3_ofItsKind_85 ?_
              have hb1 := hA 1 (by omega) (by omega)
              refine x_lsub dX3_ofItsKind_86 (by unfold okJ; omega) ?_
              refine x_callI [vI T, vI D, vI C, vA a, vJ ((am (1 : Int).toNat) - C)] dX3_ofItsKind_87 ki_X3_109 rfl rfl (by omega) (Nat.le_of_ble_eq_true rfl) (by omega) (by omega) (k_X0_init (d := 3) (by omega) (hset_eq _ _ _)) (after_void ?_)
              exact x_areturn (r := some c) dX3_ofItsKind_90 rfl (by first | exact Or.inl ⟨_, rfl⟩ | exact Or.inr ⟨_, rfl⟩) (by omega) (by omega) ⟨c, 0, (am 1 - C), ⟨n_c, l_c⟩, rfl, hset_hset _ _ _ _, by decide, by rw [kindS, if_pos (by omega)]; rfl, fun _ => rfl⟩
  refine x_aload_n 3 dX3_ofItsKind_0 rfl rfl ?_
  refine x_alenJ dX3_ofItsKind_1 ha (by omega) ?_
  refine x_asI (y := T + D) (by omega) ?_
  refine x_if_le 17 dX3_ofItsKind_2 (by decide) (fun c_2 => (by exfalso; omega)) (fun c_2 => ?_)
  refine x_aload_n 3 dX3_ofItsKind_5 rfl rfl ?_
  refine x_iconst dX3_ofItsKind_6 (okI_c rfl) ?_
  refine x_laload dX3_ofItsKind_7 ha (by omega) (by omega) ?_
  refine x_lconst (x := 0) dX3_ofItsKind_8 (okJ_c rfl) rfl ?_
  refine x_lc_ne 17 dX3_ofItsKind_9 dX3_ofItsKind_10 (by decide) (fun c_9 => ?_) (fun c_9 => ?_)
  · refine x_iconst dX3_ofItsKind_17 (okI_c rfl) ?_
    refine x_istore (L' := [(4, vI 0), (0, vI T), (1, vI D), (2, vI C), (3, vA a)]) dX3_ofItsKind_18 (Nat.le_of_ble_eq_true rfl) rfl ?_
    refine x_aload_n 4 dX3_ofItsKind_20 rfl rfl ?_
    refine x_alenJ dX3_ofItsKind_21 ha (by omega) ?_
    refine x_asI (y := T + D) (by omega) ?_
    refine x_if_le 40 dX3_ofItsKind_22 (by decide) (fun c_22 => (by exfalso; omega)) (fun c_22 => ?_)
    refine x_aload_n 4 dX3_ofItsKind_25 rfl rfl ?_
    refine x_aload_n 4 dX3_ofItsKind_26 rfl rfl ?_
    refine x_alenJ dX3_ofItsKind_27 ha (by omega) ?_
    refine x_asI (y := T + D) (by omega) ?_
    refine x_iconst dX3_ofItsKind_28 (okI_c rfl) ?_
    refine x_isub dX3_ofItsKind_29 (by unfold okI; omega) ?_
    refine x_laload dX3_ofItsKind_30 ha (by omega) (by omega) ?_
    refine x_lconst (x := 0) dX3_ofItsKind_31 (okJ_c rfl) rfl ?_
    refine x_lc_ne 40 dX3_ofItsKind_32 dX3_ofItsKind_33 (by decide) (fun c_32 => ?_) (fun c_32 => ?_)
    · refine x_iconst dX3_ofItsKind_40 (okI_c rfl) ?_
      refine x_istore (L' := [(5, vI 0), (4, vI 0), (0, vI T), (1, vI D), (2, vI C), (3, vA a)]) dX3_ofItsKind_41 (Nat.le_of_ble_eq_true rfl) rfl ?_
      exact EX.pick [2, 3, 4, 5, 1, 0] rfl (cut_43 0 0 (by omega) (by omega))
    · refine x_iconst dX3_ofItsKind_36 (okI_c rfl) ?_
      refine x_goto 41 dX3_ofItsKind_37 (by decide) ?_
      refine x_istore (L' := [(5, vI 1), (4, vI 0), (0, vI T), (1, vI D), (2, vI C), (3, vA a)]) dX3_ofItsKind_41 (Nat.le_of_ble_eq_true rfl) rfl ?_
      exact EX.pick [2, 3, 4, 5, 1, 0] rfl (cut_43 0 1 (by omega) (by omega))
  · refine x_iconst dX3_ofItsKind_13 (okI_c rfl) ?_
    refine x_goto 18 dX3_ofItsKind_14 (by decide) ?_
    refine x_istore (L' := [(4, vI 1), (0, vI T), (1, vI D), (2, vI C), (3, vA a)]) dX3_ofItsKind_18 (Nat.le_of_ble_eq_true rfl) rfl ?_
    refine x_aload_n 4 dX3_ofItsKind_20 rfl rfl ?_
    refine x_alenJ dX3_ofItsKind_21 ha (by omega) ?_
    refine x_asI (y := T + D) (by omega) ?_
    refine x_if_le 40 dX3_ofItsKind_22 (by decide) (fun c_22 => (by exfalso; omega)) (fun c_22 => ?_)
    refine x_aload_n 4 dX3_ofItsKind_25 rfl rfl ?_
    refine x_aload_n 4 dX3_ofItsKind_26 rfl rfl ?_
    refine x_alenJ dX3_ofItsKind_27 ha (by omega) ?_
    refine x_asI (y := T + D) (by omega) ?_
    refine x_iconst dX3_ofItsKind_28 (okI_c rfl) ?_
    refine x_isub dX3_ofItsKind_29 (by unfold okI; omega) ?_
    refine x_laload dX3_ofItsKind_30 ha (by omega) (by omega) ?_
    refine x_lconst (x := 0) dX3_ofItsKind_31 (okJ_c rfl) rfl ?_
    refine x_lc_ne 40 dX3_ofItsKind_32 dX3_ofItsKind_33 (by decide) (fun c_32 => ?_) (fun c_32 => ?_)
    · refine x_iconst dX3_ofItsKind_40 (okI_c rfl) ?_
      refine x_istore (L' := [(5, vI 0), (4, vI 1), (0, vI T), (1, vI D), (2, vI C), (3, vA a)]) dX3_ofItsKind_41 (Nat.le_of_ble_eq_true rfl) rfl ?_
      exact EX.pick [2, 3, 4, 5, 1, 0] rfl (cut_43 1 0 (by omega) (by omega))
    · refine x_iconst dX3_ofItsKind_36 (okI_c rfl) ?_
      refine x_goto 41 dX3_ofItsKind_37 (by decide) ?_
      refine x_istore (L' := [(5, vI 1), (4, vI 1), (0, vI T), (1, vI D), (2, vI C), (3, vA a)]) dX3_ofItsKind_41 (Nat.le_of_ble_eq_true rfl) rfl ?_
      exact EX.pick [2, 3, 4, 5, 1, 0] rfl (cut_43 1 1 (by omega) (by omega))
/-- what a making leaves: nothing, or a new curve in its least terms, by a sequence and a turn of it -/
def NewCv (h h' : aH) (H : Int → Int) (T D C : Int) (r : Option aV) : Prop := ∃ (a c ci : Nat) (am : Nat → Int) (ld : Int), Aft h a ∧ Aft (hset h a (eJ (T + D).toNat am)) c ∧ r = some (vA c) ∧ h' = hset (hset h a (eJ (T + D).toNat am)) c (eO ci (cvF ci T D C a ld)) ∧ ci ∈ [0, 1, 2, 4, 6] ∧ KindOk ci T D C am ld ∧ CvOk T D C am ∧ ∀ t : Int, 0 ≤ t → t < T + D → am t.toNat = H t
def MkOut (h : aH) (H : Int → Int) (P c : Int) (r : Option aV) (h' : aH) : Prop := (r = some vN ∧ h' = h ∧ NoCv H P c) ∨ ∃ T D C : Int, YesCv H P c T D C ∧ NewCv h h' H T D C r
theorem cvok_of {H : Int → Int} {T D C : Int} {am : Nat → Int} (hM : Mono H) (k : Canon H T D C) (hD : D ≤ 60) (b : InB H T D C) (ha : ∀ t : Int, 0 ≤ t → t < T + D → am t.toNat = H t) : CvOk T D C am := by
  obtain ⟨a1, a2, a3, a4, a5, a6⟩ := k
  obtain ⟨b1, b2⟩ := b
  have hT := a4 T (Int.le_refl _)
  have hTm := hM.2 T (T + D) a1 (by omega)
  refine ⟨a1, a2, a3, hD, by omega, b1, fun i q1 q2 => ?_, fun i q1 q2 => ?_, ?_⟩
  · rw [ha i q1 q2]
    have := hM.2 i (T + D - 1) q1 (by omega)
    exact ⟨hM.1 i q1, by omega⟩
  · rw [ha i q1 (by omega), ha (i + 1) (by omega) q2]
    exact hM.2 i (i + 1) q1 (by omega)
  · rw [ha (T + D - 1) (by omega) (by omega), ha T a1 (by omega)]
    have := hM.2 (T + D - 1) (T + D) (by omega) (by omega)
    omega
set_option maxRecDepth 100000 in
set_option maxHeartbeats 4000000 in
theorem k_X3_settled {G : aG} {d : Nat} (hd : 5 ≤ d) {h : aH} {m md on ot : Nat} {g f1 f2 : Nat → Int} (hm : MakAt h m md on ot g f1 f2) {H : Int → Int} {fr tu : Int} (hH : Tells g H (fr + 2 * tu)) (bH : Bnd H (fr + 2 * tu) 4000000000000000) (hfr : 0 ≤ fr) (htu : 1 ≤ tu) (hro : fr + 2 * tu ≤ 600) {c : Int} (htu6 : tu ≤ 60) (hM : Mono H) (hp : Per H fr tu c) : MC G mX3_settled d 2 265 [vA m, vI fr, vI tu] h (fun r' h' => MkOut h H tu c r' h') := by
  refine MC.of (by decide) (Nat.le_of_ble_eq_true rfl) (fun ok okh => ?_)
  show EX G mX3_settled d 2 265 _ 0 [(0, vA m), (1, vI fr), (2, vI tu)] [] h 0 0
  refine x_iload_n 1 dX3_settled_0 rfl rfl ?_
  refine x_if_lt 20 dX3_settled_1 (by decide) (fun c_1 => (by exfalso; omega)) (fun c_1 => ?_)
  refine x_iload_n 2 dX3_settled_4 rfl rfl ?_
  refine x_iconst dX3_settled_5 (okI_c rfl) ?_
  refine x_icmp_lt 20 dX3_settled_6 (by decide) (fun c_6 => (by exfalso; omega)) (fun c_6 => ?_)
  refine x_iload_n 1 dX3_settled_9 rfl rfl ?_
  refine x_iconst dX3_settled_10 (okI_c rfl) ?_
  refine x_iload_n 2 dX3_settled_11 rfl rfl ?_
  refine x_imul dX3_settled_12 (by unfold okI; omega) ?_
  refine x_iadd dX3_settled_13 (by unfold okI; omega) ?_
  refine x_sipush dX3_settled_14 (okI_c rfl) (by decide +kernel) ?_
  refine x_icmp_le 22 dX3_settled_17 (by decide) (fun c_17 => ?_) (fun c_17 => (by exfalso; omega))
  refine x_aload_n 0 dX3_settled_22 rfl rfl ?_
  refine x_iload_n 1 dX3_settled_23 rfl rfl ?_
  refine x_iload_n 2 dX3_settled_24 rfl rfl ?_
  refine x_callV [vI fr, vI tu] dX3_settled_25 kv_X3_86 rfl rfl hm.1 (by omega) (Nat.le_of_ble_eq_true rfl) (by omega) (by omega) (k_X3_leastStep (d := 2) (by omega) hm hH bH hfr htu hro) (fun r1 h1 q1 => ?_)
  obtain ⟨s, rfl, e2, hls⟩ := q1
  rw [e2]
  have hs1 := hls.1
  have hs2 := hls.2.1
  have hsp := hls.per hp htu
  show EX G mX3_settled d 2 265 _ _ _ [vI s] _ _ _
  refine x_istore_n (L' := [(3, vI s), (0, vA m), (1, vI fr), (2, vI tu)]) dX3_settled_28 rfl (Nat.le_of_ble_eq_true rfl) rfl ?_
  refine x_aload_n 1 dX3_settled_29 rfl rfl ?_
  refine x_get 0 dX3_settled_30 fl_X3_11 hm.1 rfl ?_
  refine x_iload_n 2 dX3_settled_33 rfl rfl ?_
  refine x_iload_n 0 dX3_settled_34 rfl rfl ?_
  refine x_iadd dX3_settled_35 (by unfold okI; omega) ?_
  refine x_laload dX3_settled_36 hm.2.1 (by omega) (by omega) ?_
  refine x_aload_n 1 dX3_settled_37 rfl rfl ?_
  refine x_get 0 dX3_settled_38 fl_X3_11 hm.1 rfl ?_
  refine x_iload_n 2 dX3_settled_41 rfl rfl ?_
  refine x_laload dX3_settled_42 hm.2.1 (by omega) (by omega) ?_
  have g1 := hH (fr + s) (by omega) (by omega)
  have g2 := hH fr (by omega) (by omega)
  have gm := hM.2 fr (fr + s) hfr (by omega)
  have gb1 := bH (fr + s) (by omega) (by omega)
  have gb2 := bH fr (by omega) (by omega)
  refine x_lsub dX3_settled_43 (by unfold okJ; omega) ?_
  refine x_nmJ (fun x1 e_x1 => ?_)
  refine x_lstore (L' := [(4, vJ x1), (3, vI s), (0, vA m), (1, vI fr), (2, vI tu)]) dX3_settled_44 (Nat.le_of_ble_eq_true rfl) rfl ?_
  refine x_iload_n 3 dX3_settled_46 rfl rfl ?_
  refine x_istore (L' := [(6, vI fr), (4, vJ x1), (3, vI s), (0, vA m), (1, vI fr), (2, vI tu)]) dX3_settled_47 (Nat.le_of_ble_eq_true rfl) rfl ?_
  have hx : x1 = (H (fr + s) - H fr) := by rw [e_x1, g1, g2]
  refine x_iload_n 4 dX3_settled_49 rfl rfl ?_
  refine x_iconst dX3_settled_50 (okI_c rfl) ?_
  refine x_isub dX3_settled_51 (by unfold okI; omega) ?_
  refine x_nmI (fun x2 e_x2 => ?_)
  refine x_istore (L' := [(7, vI x2), (6, vI fr), (4, vJ x1), (3, vI s), (0, vA m), (1, vI fr), (2, vI tu)]) dX3_settled_52 (Nat.le_of_ble_eq_true rfl) rfl ?_
  have loop_54 : ∀ (k_54 : Nat) (st : Int) (t : Int) , (t + 1).toNat < k_54 → 0 ≤ st → st ≤ fr → t = st - 1 → Per H st s (H (fr + s) - H fr) → EX G mX3_settled d 2 265 (fun r' h' => MkOut h H tu c r' h') 54 [(0, vA m), (1, vI fr), (2, vI tu), (3, vI s), (4, vJ x1), (6, vI st), (7, vI t)] [] h 0 0 := by
    intro k_54
    induction k_54 with
    | zero => intro st t hm; exact absurd hm (Nat.not_lt_zero _)
    | succ k_54 ih_54 =>
      intro st t hm_54 hst0 hst1 htt hper
      refine x_iload 6 dX3_settled_54 rfl ?_
      refine x_if_lt 92 dX3_settled_56 (by decide) (fun c_56 => ?_) (fun c_56 => ?_)
      · have hend : st = 0 ∨ H (st - 1 + s) ≠ H (st - 1) + (H (fr + s) - H fr) := by first | exact Or.inl (by omega) | (right; rw [← htt, ← e1, ← e2, ← hx]; exact c_78)
        refine x_iload 5 dX3_settled_92 rfl ?_
        refine x_iload_n 3 dX3_settled_94 rfl rfl ?_
        refine x_iadd dX3_settled_95 (by unfold okI; omega) ?_
        refine x_nmI (fun en e_en => ?_)
        refine x_istore (L' := [(7, vI en), (0, vA m), (1, vI fr), (2, vI tu), (3, vI s), (4, vJ x1), (6, vI st)]) dX3_settled_96 (Nat.le_of_ble_eq_true rfl) rfl ?_
        refine x_iload 6 dX3_settled_98 rfl ?_
        refine x_sipush dX3_settled_100 (okI_c rfl) (by decide +kernel) ?_
        refine x_icmp_gt 137 dX3_settled_103 (by decide) (fun c_103 => ?_) (fun c_103 => ?_)
        · refine x_null dX3_settled_137 ?_
          exact x_areturn (r := none) dX3_settled_138 rfl (by first | exact Or.inl ⟨_, rfl⟩ | exact Or.inr ⟨_, rfl⟩) (by omega) (by omega) (Or.inl ⟨rfl, rfl, by first | exact no_far hs1 htu (by omega) hsp (hend.resolve_left (by omega)) | exact no_big hcan (fun z => by have z1 := z.1; omega) | exact no_big hcan (fun z => by have z2 := z.2; rw [← e3, show st + s - 1 = en - 1 by omega] at z2; omega)⟩)
        · refine x_iload_n 4 dX3_settled_106 rfl rfl ?_
          refine x_bipush dX3_settled_107 (okI_c rfl) (by decide +kernel) ?_
          refine x_icmp_gt 137 dX3_settled_109 (by decide) (fun c_109 => (by exfalso; omega)) (fun c_109 => ?_)
          have hcan : Canon H st s (H (fr + s) - H fr) := canon_of hls hp htu hst0 (by omega) hper hend
          refine x_lload 5 dX3_settled_112 rfl ?_
          refine x_ldc2 (n := 1000000000) dX3_settled_114 (okJ_c rfl) kc_X3_89 ?_
          refine x_lc_gt 137 dX3_settled_117 dX3_settled_118 (by decide) (fun c_117 => ?_) (fun c_117 => ?_)
          · refine x_null dX3_settled_137 ?_
            exact x_areturn (r := none) dX3_settled_138 rfl (by first | exact Or.inl ⟨_, rfl⟩ | exact Or.inr ⟨_, rfl⟩) (by omega) (by omega) (Or.inl ⟨rfl, rfl, by first | exact no_far hs1 htu (by omega) hsp (hend.resolve_left (by omega)) | exact no_big hcan (fun z => by have z1 := z.1; omega) | exact no_big hcan (fun z => by have z2 := z.2; rw [← e3, show st + s - 1 = en - 1 by omega] at z2; omega)⟩)
          · refine x_aload_n 1 dX3_settled_121 rfl rfl ?_
            refine x_get 0 dX3_settled_122 fl_X3_11 hm.1 rfl ?_
            refine x_iload 0 dX3_settled_125 rfl ?_
            refine x_iconst dX3_settled_127 (okI_c rfl) ?_
            refine x_isub dX3_settled_128 (by unfold okI; omega) ?_
            refine x_laload dX3_settled_129 hm.2.1 (by omega) (by omega) ?_
            refine x_ldc2 (n := 1000000000000) dX3_settled_130 (okJ_c rfl) kc_X3_91 ?_
            have e3 := hH (st + s - 1) (by omega) (by omega)
            refine x_lc_le 139 dX3_settled_133 dX3_settled_134 (by decide) (fun c_133 => ?_) (fun c_133 => ?_)
            · have hinb : InB H st s (H (fr + s) - H fr) := ⟨by omega, by rw [← e3, show st + s - 1 = en - 1 by omega]; exact c_133⟩
              have hyes : YesCv H tu c st s (H (fr + s) - H fr) := ⟨yes_per hs1 hp htu (by omega) hper, hcan, hinb⟩
              refine x_iload 6 dX3_settled_139 rfl ?_
              refine x_iload_n 4 dX3_settled_141 rfl rfl ?_
              refine x_lload 5 dX3_settled_142 rfl ?_
              refine x_l2i dX3_settled_144 (by unfold okI; omega) ?_
              refine x_aload_n 1 dX3_settled_145 rfl rfl ?_
              refine x_get 0 dX3_settled_146 fl_X3_11 hm.1 rfl ?_
              refine x_iload 0 dX3_settled_149 rfl ?_
              refine x_callS [vA md, vI en] dX3_settled_151 ks_X3_93 rfl rfl (by omega) (Nat.le_of_ble_eq_true rfl) (by omega) (by omega) (k_copyOf (d := 1) (by omega) hm.2.1 (n := en) (by omega) (by omega) (by omega) (by omega)) (fun r1 h1 q1 => ?_)
              obtain ⟨q, f', hq, rfl, rfl, hf⟩ := q1
              subst e_en
              show EX G mX3_settled d 2 265 _ _ _ [vA q, vI x1, vI s, vI st] _ _ _
              have hco := cvok_of (am := f') hM hcan (by omega) hinb (fun t q1 q2 => by rw [hf t q1 q2]; exact hH t q1 (by omega))
              have hcok : CvOk st s x1 f' := by rw [hx]; exact hco
              refine x_callS [vI st, vI s, vI x1, vA q] dX3_settled_154 ks_X3_99 rfl rfl (by omega) (Nat.le_of_ble_eq_true rfl) (by omega) (by omega) (k_X3_kind (d := 4) (by omega) (hset_eq _ _ _) hcok) (fun r1 h1 q1 => ?_)
              obtain ⟨cq, ci, ld, hc, rfl, rfl, hci, hk⟩ := q1
              show EX G mX3_settled d 2 265 _ _ _ [vA cq] _ _ _
              exact x_areturn (r := some cq) dX3_settled_157 rfl (by first | exact Or.inl ⟨_, rfl⟩ | exact Or.inr ⟨_, rfl⟩) (by omega) (by omega) (Or.inr ⟨st, s, x1, by rw [hx]; exact hyes, q, cq, ci, f', ld, hq, hc, rfl, rfl, hci, hk, hcok, fun t q1 q2 => by rw [hf t q1 q2]; exact hH t q1 (by omega)⟩)
            · refine x_null dX3_settled_137 ?_
              exact x_areturn (r := none) dX3_settled_138 rfl (by first | exact Or.inl ⟨_, rfl⟩ | exact Or.inr ⟨_, rfl⟩) (by omega) (by omega) (Or.inl ⟨rfl, rfl, by first | exact no_far hs1 htu (by omega) hsp (hend.resolve_left (by omega)) | exact no_big hcan (fun z => by have z1 := z.1; omega) | exact no_big hcan (fun z => by have z2 := z.2; rw [← e3, show st + s - 1 = en - 1 by omega] at z2; omega)⟩)
      · refine x_aload_n 0 dX3_settled_59 rfl rfl ?_
        refine x_get 0 dX3_settled_60 fl_X3_11 hm.1 rfl ?_
        refine x_iload 6 dX3_settled_63 rfl ?_
        refine x_iload_n 3 dX3_settled_65 rfl rfl ?_
        refine x_iadd dX3_settled_66 (by unfold okI; omega) ?_
        refine x_laload dX3_settled_67 hm.2.1 (by omega) (by omega) ?_
        refine x_aload_n 0 dX3_settled_68 rfl rfl ?_
        refine x_get 0 dX3_settled_69 fl_X3_11 hm.1 rfl ?_
        refine x_iload 6 dX3_settled_72 rfl ?_
        refine x_laload dX3_settled_74 hm.2.1 (by omega) (by omega) ?_
        refine x_lload 4 dX3_settled_75 rfl ?_
        have e1 := hH (t + s) (by omega) (by omega)
        have e2 := hH t (by omega) (by omega)
        have b2 := bH t (by omega) (by omega)
        refine x_ladd dX3_settled_77 (by unfold okJ; omega) ?_
        refine x_lc_ne 92 dX3_settled_78 dX3_settled_79 (by decide) (fun c_78 => ?_) (fun c_78 => ?_)
        · have hend : st = 0 ∨ H (st - 1 + s) ≠ H (st - 1) + (H (fr + s) - H fr) := by first | exact Or.inl (by omega) | (right; rw [← htt, ← e1, ← e2, ← hx]; exact c_78)
          refine x_iload 5 dX3_settled_92 rfl ?_
          refine x_iload_n 3 dX3_settled_94 rfl rfl ?_
          refine x_iadd dX3_settled_95 (by unfold okI; omega) ?_
          refine x_nmI (fun en e_en => ?_)
          refine x_istore (L' := [(7, vI en), (0, vA m), (1, vI fr), (2, vI tu), (3, vI s), (4, vJ x1), (6, vI st)]) dX3_settled_96 (Nat.le_of_ble_eq_true rfl) rfl ?_
          refine x_iload 6 dX3_settled_98 rfl ?_
          refine x_sipush dX3_settled_100 (okI_c rfl) (by decide +kernel) ?_
          refine x_icmp_gt 137 dX3_settled_103 (by decide) (fun c_103 => ?_) (fun c_103 => ?_)
          · refine x_null dX3_settled_137 ?_
            exact x_areturn (r := none) dX3_settled_138 rfl (by first | exact Or.inl ⟨_, rfl⟩ | exact Or.inr ⟨_, rfl⟩) (by omega) (by omega) (Or.inl ⟨rfl, rfl, by first | exact no_far hs1 htu (by omega) hsp (hend.resolve_left (by omega)) | exact no_big hcan (fun z => by have z1 := z.1; omega) | exact no_big hcan (fun z => by have z2 := z.2; rw [← e3, show st + s - 1 = en - 1 by omega] at z2; omega)⟩)
          · refine x_iload_n 4 dX3_settled_106 rfl rfl ?_
            refine x_bipush dX3_settled_107 (okI_c rfl) (by decide +kernel) ?_
            refine x_icmp_gt 137 dX3_settled_109 (by decide) (fun c_109 => (by exfalso; omega)) (fun c_109 => ?_)
            have hcan : Canon H st s (H (fr + s) - H fr) := canon_of hls hp htu hst0 (by omega) hper hend
            refine x_lload 5 dX3_settled_112 rfl ?_
            refine x_ldc2 (n := 1000000000) dX3_settled_114 (okJ_c rfl) kc_X3_89 ?_
            refine x_lc_gt 137 dX3_settled_117 dX3_settled_118 (by decide) (fun c_117 => ?_) (fun c_117 => ?_)
            · refine x_null dX3_settled_137 ?_
              exact x_areturn (r := none) dX3_settled_138 rfl (by first | exact Or.inl ⟨_, rfl⟩ | exact Or.inr ⟨_, rfl⟩) (by omega) (by omega) (Or.inl ⟨rfl, rfl, by first | exact no_far hs1 htu (by omega) hsp (hend.resolve_left (by omega)) | exact no_big hcan (fun z => by have z1 := z.1; omega) | exact no_big hcan (fun z => by have z2 := z.2; rw [← e3, show st + s - 1 = en - 1 by omega] at z2; omega)⟩)
            · refine x_aload_n 1 dX3_settled_121 rfl rfl ?_
              refine x_get 0 dX3_settled_122 fl_X3_11 hm.1 rfl ?_
              refine x_iload 0 dX3_settled_125 rfl ?_
              refine x_iconst dX3_settled_127 (okI_c rfl) ?_
              refine x_isub dX3_settled_128 (by unfold okI; omega) ?_
              refine x_laload dX3_settled_129 hm.2.1 (by omega) (by omega) ?_
              refine x_ldc2 (n := 1000000000000) dX3_settled_130 (okJ_c rfl) kc_X3_91 ?_
              have e3 := hH (st + s - 1) (by omega) (by omega)
              refine x_lc_le 139 dX3_settled_133 dX3_settled_134 (by decide) (fun c_133 => ?_) (fun c_133 => ?_)
              · have hinb : InB H st s (H (fr + s) - H fr) := ⟨by omega, by rw [← e3, show st + s - 1 = en - 1 by omega]; exact c_133⟩
                have hyes : YesCv H tu c st s (H (fr + s) - H fr) := ⟨yes_per hs1 hp htu (by omega) hper, hcan, hinb⟩
                refine x_iload 6 dX3_settled_139 rfl ?_
                refine x_iload_n 4 dX3_settled_141 rfl rfl ?_
                refine x_lload 5 dX3_settled_142 rfl ?_
                refine x_l2i dX3_settled_144 (by unfold okI; omega) ?_
                refine x_aload_n 1 dX3_settled_145 rfl rfl ?_
                refine x_get 0 dX3_settled_146 fl_X3_11 hm.1 rfl ?_
                refine x_iload 0 dX3_settled_149 rfl ?_
                refine x_callS [vA md, vI en] dX3_settled_151 ks_X3_93 rfl rfl (by omega) (Nat.le_of_ble_eq_true rfl) (by omega) (by omega) (k_copyOf (d := 1) (by omega) hm.2.1 (n := en) (by omega) (by omega) (by omega) (by omega)) (fun r1 h1 q1 => ?_)
                obtain ⟨q, f', hq, rfl, rfl, hf⟩ := q1
                subst e_en
                show EX G mX3_settled d 2 265 _ _ _ [vA q, vI x1, vI s, vI st] _ _ _
                have hco := cvok_of (am := f') hM hcan (by omega) hinb (fun t q1 q2 => by rw [hf t q1 q2]; exact hH t q1 (by omega))
                have hcok : CvOk st s x1 f' := by rw [hx]; exact hco
                refine x_callS [vI st, vI s, vI x1, vA q] dX3_settled_154 ks_X3_99 rfl rfl (by omega) (Nat.le_of_ble_eq_true rfl) (by omega) (by omega) (k_X3_kind (d := 4) (by omega) (hset_eq _ _ _) hcok) (fun r1 h1 q1 => ?_)
                obtain ⟨cq, ci, ld, hc, rfl, rfl, hci, hk⟩ := q1
                show EX G mX3_settled d 2 265 _ _ _ [vA cq] _ _ _
                exact x_areturn (r := some cq) dX3_settled_157 rfl (by first | exact Or.inl ⟨_, rfl⟩ | exact Or.inr ⟨_, rfl⟩) (by omega) (by omega) (Or.inr ⟨st, s, x1, by rw [hx]; exact hyes, q, cq, ci, f', ld, hq, hc, rfl, rfl, hci, hk, hcok, fun t q1 q2 => by rw [hf t q1 q2]; exact hH t q1 (by omega)⟩)
              · refine x_null dX3_settled_137 ?_
                exact x_areturn (r := none) dX3_settled_138 rfl (by first | exact Or.inl ⟨_, rfl⟩ | exact Or.inr ⟨_, rfl⟩) (by omega) (by omega) (Or.inl ⟨rfl, rfl, by first | exact no_far hs1 htu (by omega) hsp (hend.resolve_left (by omega)) | exact no_big hcan (fun z => by have z1 := z.1; omega) | exact no_big hcan (fun z => by have z2 := z.2; rw [← e3, show st + s - 1 = en - 1 by omega] at z2; omega)⟩)
        · refine x_iload 6 dX3_settled_82 rfl ?_
          refine x_istore (L' := [(6, vI t), (0, vA m), (1, vI fr), (2, vI tu), (3, vI s), (4, vJ x1), (7, vI t)]) dX3_settled_84 (Nat.le_of_ble_eq_true rfl) rfl ?_
          refine x_iinc 6 (L' := [(7, vI (t + (-1))), (6, vI t), (0, vA m), (1, vI fr), (2, vI tu), (3, vI s), (4, vJ x1)]) dX3_settled_86 rfl (by unfold okI; omega) (Nat.le_of_ble_eq_true rfl) rfl ?_
          refine x_goto 54 dX3_settled_89 (by decide) ?_
          exact EX.pick [2, 3, 4, 5, 6, 1, 0] rfl (ih_54 t (t + (-1))  (by omega) (by omega) (by omega) (by omega) (fun y q1 => by by_cases q : st ≤ y; exact hper y q; have e : y = t := (by omega); subst e; rw [← e1, ← e2, ← hx]; exact c_78))
  exact EX.pick [4, 5, 6, 3, 2, 1, 0] rfl (loop_54 (((x2 : Int) + 1).toNat + 1) fr x2  (Nat.lt_succ_self _) (by omega) (by omega) (by omega) hsp)
