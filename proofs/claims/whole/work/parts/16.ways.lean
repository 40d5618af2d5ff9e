/-! ===== the six ways, times, shift: they never fall; one turn tells all ===== -/
theorem cval_step2 {T D C : Int} {am : Nat → Int} (hT0 : 0 ≤ T) (hD0 : 1 ≤ D) (hC0 : 0 ≤ C) (hM : ∀ i : Int, 0 ≤ i → i + 1 < T + D → am i.toNat ≤ am (i + 1).toNat) (hW : am (T + D - 1).toNat ≤ am T.toNat + C) : ∀ (n : Nat) (t : Int), 0 ≤ t → t.toNat ≤ n → cval T D C am t ≤ cval T D C am (t + 1) := by
  intro n
  induction n with
  | zero =>
    intro t h0 hn
    have ht : t = 0 := by omega
    subst ht
    by_cases h1 : (0 : Int) + 1 < T + D
    · rw [cval_lt (by omega), cval_lt h1]; exact hM 0 (by omega) h1
    · have hT : T = 0 := by omega
      have hD : D = 1 := by omega
      subst hT; subst hD
      have := cval_per (T := 0) (D := 1) (C := C) (am := am) (t := 0) (by omega) (by omega)
      rw [this]; omega
  | succ n ih =>
    intro t h0 hn
    by_cases h1 : t + 1 < T + D
    · rw [cval_lt (by omega), cval_lt h1]; exact hM t (by omega) h1
    · by_cases h2 : t < T + D
      · have e : t + 1 = T + D := by omega
        rw [e, cval_per hD0 (Int.le_refl T), cval_lt h2, cval_lt (show T < T + D by omega)]
        rw [show t = T + D - 1 by omega]; exact hW
      · have p1 := cval_per (T := T) (D := D) (C := C) (am := am) (t := t - D) hD0 (by omega)
        have p2 := cval_per (T := T) (D := D) (C := C) (am := am) (t := t + 1 - D) hD0 (by omega)
        rw [show t - D + D = t by omega] at p1
        rw [show t + 1 - D + D = t + 1 by omega] at p2
        rw [p1, p2]
        have := ih (t - D) (by omega) (by omega)
        rw [show t - D + 1 = t + 1 - D by omega] at this
        omega
theorem Mono.of_step {H : Int → Int} (h0 : 0 ≤ H 0) (h : ∀ t : Int, 0 ≤ t → H t ≤ H (t + 1)) : Mono H := by
  have key : ∀ s u : Int, 0 ≤ s → s ≤ u → H s ≤ H u := by
    intro s u hs hu
    obtain ⟨k, rfl⟩ : ∃ k : Nat, u = s + k := ⟨(u - s).toNat, by omega⟩
    clear hu
    induction k with
    | zero => simp
    | succ k ih =>
      have := h (s + k) (by omega)
      rw [show s + ((k + 1 : Nat) : Int) = s + k + 1 by omega]
      omega
  refine ⟨fun s hs => ?_, key⟩
  have := key 0 s (Int.le_refl 0) hs
  omega
theorem row_mono {T D C : Int} {am : Nat → Int} (hT0 : 0 ≤ T) (hD0 : 1 ≤ D) (hC0 : 0 ≤ C) (h0 : 0 ≤ am 0) (hM : ∀ i : Int, 0 ≤ i → i + 1 < T + D → am i.toNat ≤ am (i + 1).toNat) (hW : am (T + D - 1).toNat ≤ am T.toNat + C) : Mono (cval T D C am) :=
  Mono.of_step (by rw [cval_lt (by omega)]; exact h0) fun t ht => cval_step2 hT0 hD0 hC0 hM hW _ t ht (Nat.le_refl _)
theorem cval_Per {T D C P : Int} {am : Nat → Int} (hD : 1 ≤ D) (hP : 0 ≤ P) (hm : P % D = 0) : Per (cval T D C am) T P (C * (P / D)) := by
  intro t ht
  have e := Int.mul_ediv_add_emod P D
  have hq : 0 ≤ P / D := Int.ediv_nonneg hP (by omega)
  have := cval_pers (T := T) (C := C) (am := am) hD ht (P / D).toNat
  rw [show (((P / D).toNat : Nat) : Int) = P / D by omega] at this
  have e2 : P / D * D = P := by rw [Int.mul_comm]; omega
  rw [e2] at this
  rw [this, Int.mul_comm C]
-- never falling
theorem side_mono {F G : Int → Int} (hF : Mono F) (hG : Mono G) (w : Int) : Mono (sideS w F G) := by
  refine ⟨fun s hs => ?_, fun s u hs hu => ?_⟩
  · have a := hF.1 s hs
    have b := hG.1 s hs
    unfold sideS; (repeat' split) <;> omega
  · have a := hF.2 s u hs hu
    have b := hG.2 s u hs hu
    unfold sideS; (repeat' split) <;> omega
theorem rest_mono (F G : Int → Int) : Mono (restS F G) := by
  refine ⟨fun s _ => sup0_nn _ _, fun s u hs hu => ?_⟩
  refine sup0_le (sup0_nn _ _) fun t h0 h1 => ?_
  exact sup0_ge (f := fun s => F s - G s) h0 (by omega)
theorem both_le {F G : Int → Int} {t s : Int} (h0 : 0 ≤ s) (h1 : s ≤ t) : bothS F G t ≤ F s + G (t - s) := minS_le_at (f := fun s => F s + G (t - s)) h0 (by omega)
theorem both_ge {F G : Int → Int} {t b : Int} (ht : 0 ≤ t) (h : ∀ s : Int, 0 ≤ s → s ≤ t → b ≤ F s + G (t - s)) : b ≤ bothS F G t := by
  refine minS_ge ?_ fun s q1 q2 => h s q1 (by omega)
  have := h 0 (Int.le_refl 0) ht
  rw [Int.sub_zero] at this; exact this
theorem both_at {F G : Int → Int} {t : Int} (ht : 0 ≤ t) : ∃ s : Int, 0 ≤ s ∧ s ≤ t ∧ bothS F G t = F s + G (t - s) := by
  have key : ∀ n : Nat, (∃ s : Int, 0 ≤ s ∧ s < n ∧ minS (fun s => F s + G (t - s)) (F 0 + G t) n = F s + G (t - s)) ∨ minS (fun s => F s + G (t - s)) (F 0 + G t) n = F 0 + G t := by
    intro n
    induction n with
    | zero => exact Or.inr rfl
    | succ n ih =>
      simp only [minS]
      by_cases h : F n + G (t - n) ≤ minS (fun s => F s + G (t - s)) (F 0 + G t) n
      · exact Or.inl ⟨n, by omega, by omega, by rw [Int.min_eq_right h]⟩
      · rw [Int.min_eq_left (by omega)]
        rcases ih with ⟨s, a, b, c⟩ | c
        · exact Or.inl ⟨s, a, by omega, c⟩
        · exact Or.inr c
  rcases key (t + 1).toNat with ⟨s, a, b, c⟩ | c
  · exact ⟨s, a, by omega, c⟩
  · exact ⟨0, by omega, ht, by rw [Int.sub_zero]; exact c⟩
theorem both_mono {F G : Int → Int} (hF : Mono F) (hG : Mono G) : Mono (bothS F G) := by
  refine ⟨fun t ht => both_ge ht fun s q1 q2 => ?_, fun t u ht hu => both_ge (by omega) fun s q1 q2 => ?_⟩
  · have := hF.1 s q1
    have := hG.1 (t - s) (by omega)
    omega
  · by_cases q : s ≤ t
    · have := both_le (F := F) (G := G) q1 q
      have := hG.2 (t - s) (u - s) (by omega) (by omega)
      omega
    · have h1 := both_le (F := F) (G := G) ht (Int.le_refl t)
      rw [Int.sub_self] at h1
      have := hF.2 t s ht (by omega)
      have := hG.2 0 (u - s) (by omega) (by omega)
      omega
theorem off_mono {F G : Int → Int} (hF : Mono F) (n : Int) : Mono (offS F G n) := by
  refine ⟨fun s _ => sup0_nn _ _, fun s u hs hu => ?_⟩
  refine sup0_le (sup0_nn _ _) fun t h0 h1 => ?_
  have h2 := sup0_ge (f := fun v => F (u + v) - G v) h0 h1
  have h3 := hF.2 (s + t) (u + t) (by omega) (by omega)
  show F (s + t) - G t ≤ sup0 (fun v => F (u + v) - G v) n.toNat
  omega
-- how great
theorem side_bnd {F G : Int → Int} {n B : Int} (hF : Bnd F n B) (hG : Bnd G n B) (w : Int) : Bnd (sideS w F G) n (2 * B) := by
  intro t h0 h1
  have a := hF t h0 h1
  have b := hG t h0 h1
  unfold sideS; (repeat' split) <;> omega
theorem rest_bnd {F G : Int → Int} {n B : Int} (hF : Bnd F n B) (hG : Bnd G n B) : Bnd (restS F G) n B := by
  intro t h0 h1
  have a := hF t h0 h1
  refine ⟨sup0_nn _ _, sup0_le (by omega) fun s q0 q1 => ?_⟩
  have a := hF s q0 (by omega)
  have b := hG s q0 (by omega)
  omega
theorem both_bnd {F G : Int → Int} {n B : Int} (hF : Bnd F n B) (hG : Bnd G n B) (hFm : Mono F) (hGm : Mono G) : Bnd (bothS F G) n (2 * B) := by
  intro t h0 h1
  refine ⟨(both_mono hFm hGm).1 t h0, ?_⟩
  have := both_le (F := F) (G := G) h0 (Int.le_refl t)
  have a := hF t h0 h1
  have b := hG (t - t) (by omega) (by omega)
  omega
theorem off_bnd {F G : Int → Int} {n k B : Int} (hF : Bnd F (n + k) B) (hG : Bnd G k B) (hB : 0 ≤ B) : Bnd (offS F G k) n B := by
  intro t h0 h1
  refine ⟨sup0_nn _ _, sup0_le hB fun s q0 q1 => ?_⟩
  have a := hF (t + s) (by omega) (by omega)
  have b := hG s q0 (by omega)
  omega
-- one turn tells all: by induction on turns
theorem turn_ind {Q : Int → Prop} {a P : Int} (hP : 1 ≤ P) (h0 : ∀ t : Int, a ≤ t → t < a + P → Q t) (hs : ∀ t : Int, a ≤ t → Q t → Q (t + P)) : ∀ t : Int, a ≤ t → Q t := by
  have key : ∀ n : Nat, ∀ t : Int, a ≤ t → (t - a).toNat ≤ n → Q t := by
    intro n
    induction n with
    | zero => intro t q1 q2; exact h0 t q1 (by omega)
    | succ n ih =>
      intro t q1 q2
      by_cases q : t < a + P
      · exact h0 t q1 q
      · have := hs (t - P) (by omega) (ih (t - P) (by omega) (by omega))
        rwa [show t - P + P = t by omega] at this
  exact fun t ht => key _ t ht (Nat.le_refl _)
theorem side_turn {F G : Int → Int} {fr P a b w : Int} (hP : 1 ≤ P) (hF : Per F fr P a) (hG : Per G fr P b) (hw : w = 0 ∨ w = 1 ∨ w = 2)
    (h : ∀ t : Int, fr ≤ t → t < fr + P → sideS w F G (t + P) = sideS w F G t + (if w = 0 then a + b else if w = 1 then min a b else max a b)) : Per (sideS w F G) fr P (if w = 0 then a + b else if w = 1 then min a b else max a b) := by
  refine turn_ind hP h fun t ht ih => ?_
  have f1 := hF t ht
  have g1 := hG t ht
  have f2 := hF (t + P) (by omega)
  have g2 := hG (t + P) (by omega)
  rcases hw with rfl | rfl | rfl <;> simp only [sideS] at ih ⊢ <;> simp only [reduceIte, show ¬ ((1 : Int) = 0) by decide, show ¬ ((2 : Int) = 0) by decide, show ¬ ((2 : Int) = 1) by decide] at ih ⊢ <;> omega
theorem rest_turn {F G : Int → Int} {fr P a b : Int} (h0 : 0 ≤ fr) (hP : 1 ≤ P) (hF : Per F fr P a) (hG : Per G fr P b)
    (h : ∀ t : Int, fr ≤ t → t < fr + P → restS F G (t + P) = restS F G t + max 0 (a - b)) : Per (restS F G) fr P (max 0 (a - b)) := by
  have hm := rest_mono F G
  have h1 := h fr (Int.le_refl _) (by omega)
  have hge : ∀ s t : Int, 0 ≤ s → s ≤ t → F s - G s ≤ restS F G t := fun s t q0 q1 => sup0_ge (f := fun s => F s - G s) q0 (by omega)
  intro t ht
  have hD : ∀ s : Int, fr ≤ s → F (s + P) - G (s + P) = F s - G s + (a - b) := fun s hs => by rw [hF s hs, hG s hs]; omega
  by_cases hab : a ≤ b
  · have hc : max 0 (a - b) = 0 := by omega
    rw [hc] at h1 ⊢
    have key : ∀ s : Int, fr ≤ s → F s - G s ≤ restS F G fr := by
      refine turn_ind hP (fun s q1 q2 => ?_) fun s q1 ih => ?_
      · have := hge s (fr + P) (by omega) (by omega); omega
      · have := hD s q1; omega
    have hall : ∀ u : Int, fr ≤ u → restS F G u ≤ restS F G fr := fun u hu => sup0_le (hm.1 fr h0) fun s q0 q1 => by
      by_cases q : fr ≤ s
      · exact key s q
      · exact hge s fr q0 (by omega)
    have e1 := hall t ht
    have e2 := hall (t + P) (by omega)
    have e3 := hm.2 fr t h0 ht
    have e4 := hm.2 fr (t + P) h0 (by omega)
    omega
  · have hc : max 0 (a - b) = a - b := by omega
    rw [hc] at h1 ⊢
    apply Int.le_antisymm
    · refine sup0_le (by have := hm.1 t (by omega); omega) fun s q0 q1 => ?_
      by_cases q : fr + P ≤ s
      · have e1 := hD (s - P) (by omega)
        rw [show s - P + P = s by omega] at e1
        have e2 := hge (s - P) t (by omega) (by omega)
        omega
      · have e1 := hge s (fr + P) q0 (by omega)
        have e2 := hm.2 fr t h0 ht
        omega
    · have e0 := hm.2 (fr + P) (t + P) (by omega) (by omega)
      have e1 : restS F G t = 0 ∨ ∃ s : Int, 0 ≤ s ∧ s < ((t + 1).toNat : Int) ∧ restS F G t = F s - G s := sup0_at (fun s => F s - G s) (t + 1).toNat
      have e4 := hm.2 fr t h0 ht
      rcases e1 with e1 | ⟨s, q0, q1, e1⟩
      · have e3 := hm.1 fr h0
        omega
      · by_cases q : fr ≤ s
        · have e2 := hD s q
          have e3 := hge (s + P) (t + P) (by omega) (by omega)
          omega
        · have e3 := hge s fr q0 (by omega)
          omega
theorem both_comm (F G : Int → Int) {t : Int} (ht : 0 ≤ t) : bothS F G t = bothS G F t := by
  apply Int.le_antisymm
  · refine both_ge ht fun s q0 q1 => ?_
    have := both_le (F := F) (G := G) (t := t) (s := t - s) (by omega) (by omega)
    rw [show t - (t - s) = s by omega] at this
    omega
  · refine both_ge ht fun s q0 q1 => ?_
    have := both_le (F := G) (G := F) (t := t) (s := t - s) (by omega) (by omega)
    rw [show t - (t - s) = s by omega] at this
    omega
theorem both_turn1 {F G : Int → Int} {T1 T2 fr P a b : Int} (hT1 : 0 ≤ T1) (hT2 : 0 ≤ T2) (hfr : T1 + T2 + P ≤ fr) (hP : 1 ≤ P) (hF : Per F T1 P a) (hG : Per G T2 P b) (hab : a ≤ b)
    (h : ∀ t : Int, fr ≤ t → t < fr + P → bothS F G (t + P) = bothS F G t + a) : Per (bothS F G) fr P a := by
  refine turn_ind hP h fun t ht ih => ?_
  apply Int.le_antisymm
  · obtain ⟨s, q0, q1, e⟩ := both_at (F := F) (G := G) (t := t + P) (by omega)
    by_cases q : T1 ≤ s
    · have h1 := both_le (F := F) (G := G) (t := t + P + P) (s := s + P) (by omega) (by omega)
      rw [hF s q, show t + P + P - (s + P) = t + P - s by omega] at h1
      omega
    · have h1 := both_le (F := F) (G := G) (t := t) (s := s) q0 (by omega)
      have h2 := hG (t - s) (by omega)
      rw [show t - s + P = t + P - s by omega] at h2
      have h3 := both_le (F := F) (G := G) (t := t + P + P) (s := s) q0 (by omega)
      have h4 := hG (t + P - s) (by omega)
      rw [show t + P - s + P = t + P + P - s by omega] at h4
      omega
  · have hge : bothS F G (t + P) + a ≤ bothS F G (t + P + P) := by
      obtain ⟨s, q0, q1, e⟩ := both_at (F := F) (G := G) (t := t + P + P) (by omega)
      by_cases q : T1 + P ≤ s
      · have h1 := both_le (F := F) (G := G) (t := t + P) (s := s - P) (by omega) (by omega)
        have h2 := hF (s - P) (by omega)
        rw [show s - P + P = s by omega] at h2
        rw [show t + P - (s - P) = t + P + P - s by omega] at h1
        omega
      · have h1 := both_le (F := F) (G := G) (t := t + P) (s := s) q0 (by omega)
        have h2 := hG (t + P - s) (by omega)
        rw [show t + P - s + P = t + P + P - s by omega] at h2
        omega
    exact hge
theorem both_turn {F G : Int → Int} {T1 T2 fr P a b : Int} (hT1 : 0 ≤ T1) (hT2 : 0 ≤ T2) (hfr : T1 + T2 + P ≤ fr) (hP : 1 ≤ P) (hF : Per F T1 P a) (hG : Per G T2 P b)
    (h : ∀ t : Int, fr ≤ t → t < fr + P → bothS F G (t + P) = bothS F G t + min a b) : Per (bothS F G) fr P (min a b) := by
  by_cases hab : a ≤ b
  · rw [Int.min_eq_left hab] at h ⊢
    exact both_turn1 hT1 hT2 hfr hP hF hG hab h
  · rw [Int.min_eq_right (by omega)] at h ⊢
    have := both_turn1 (fr := fr) hT2 hT1 (by omega) hP hG hF (show b ≤ a by omega) fun t q1 q2 => by
      rw [both_comm G F (by omega), both_comm G F (by omega)]; exact h t q1 q2
    intro t ht
    rw [both_comm F G (by omega), both_comm F G (by omega)]
    exact this t ht
theorem off_turn {F G : Int → Int} {fr P a n : Int} (hP : 1 ≤ P) (hF : Per F fr P a) (h0 : 0 ≤ fr) (ha : 0 ≤ a)
    (h : ∀ t : Int, fr ≤ t → t < fr + P → offS F G n (t + P) = offS F G n t + a) : Per (offS F G n) fr P a := by
  refine turn_ind hP h fun t ht ih => ?_
  have hs : ∀ u : Int, 0 ≤ u → F (t + P + P + u) - G u = F (t + P + u) - G u + a := fun u hu => by
    have := hF (t + P + u) (by omega)
    rw [show t + P + u + P = t + P + P + u by omega] at this
    omega
  apply Int.le_antisymm
  · refine sup0_le (by have := sup0_nn (fun u => F (t + P + u) - G u) n.toNat; show 0 ≤ sup0 (fun u => F (t + P + u) - G u) n.toNat + a; omega) fun u q0 q1 => ?_
    rw [hs u q0]
    have := sup0_ge (f := fun u => F (t + P + u) - G u) q0 q1
    show F (t + P + u) - G u + a ≤ sup0 (fun u => F (t + P + u) - G u) n.toNat + a
    omega
  · have hnn := sup0_nn (fun u => F (t + P + P + u) - G u) n.toNat
    have e1 : offS F G n (t + P) = 0 ∨ ∃ u : Int, 0 ≤ u ∧ u < (n.toNat : Int) ∧ offS F G n (t + P) = F (t + P + u) - G u := sup0_at (fun u => F (t + P + u) - G u) n.toNat
    rcases e1 with e1 | ⟨u, q0, q1, e1⟩
    · have e2 : 0 ≤ offS F G n t := sup0_nn _ _
      show _ ≤ sup0 (fun u => F (t + P + P + u) - G u) n.toNat
      omega
    · have e2 := hs u q0
      have e3 := sup0_ge (f := fun u => F (t + P + P + u) - G u) q0 q1
      show _ ≤ sup0 (fun u => F (t + P + P + u) - G u) n.toNat
      omega
/-- of BOTH it is enough to look where one is near -/
theorem both_near {F G : Int → Int} {T1 T2 P a b : Int} (hP : 1 ≤ P) (hT1 : 0 ≤ T1) (hT2 : 0 ≤ T2) (hF : Per F T1 P a) (hG : Per G T2 P b) (t s : Int) (h0 : 0 ≤ s) (h1 : s ≤ t) : ∃ s' : Int, 0 ≤ s' ∧ s' ≤ t ∧ (s' < T1 + P ∨ t - s' < T2 + P) ∧ F s' + G (t - s') ≤ F s + G (t - s) := by
  by_cases hab : a ≤ b
  · have key : ∀ n : Nat, ∀ s : Int, 0 ≤ s → s ≤ t → (t - s).toNat ≤ n → ∃ s' : Int, 0 ≤ s' ∧ s' ≤ t ∧ (s' < T1 + P ∨ t - s' < T2 + P) ∧ F s' + G (t - s') ≤ F s + G (t - s) := by
      intro n
      induction n with
      | zero => intro s q0 q1 q2; exact ⟨s, q0, q1, Or.inr (by omega), Int.le_refl _⟩
      | succ n ih =>
        intro s q0 q1 q2
        by_cases q : s < T1 + P ∨ t - s < T2 + P
        · exact ⟨s, q0, q1, q, Int.le_refl _⟩
        · obtain ⟨s', r0, r1, r2, r3⟩ := ih (s + P) (by omega) (by omega) (by omega)
          refine ⟨s', r0, r1, r2, ?_⟩
          have f1 := hF s (by omega)
          have g1 := hG (t - (s + P)) (by omega)
          rw [show t - (s + P) + P = t - s by omega] at g1
          omega
    exact key _ s h0 h1 (Nat.le_refl _)
  · have key : ∀ n : Nat, ∀ s : Int, 0 ≤ s → s ≤ t → s.toNat ≤ n → ∃ s' : Int, 0 ≤ s' ∧ s' ≤ t ∧ (s' < T1 + P ∨ t - s' < T2 + P) ∧ F s' + G (t - s') ≤ F s + G (t - s) := by
      intro n
      induction n with
      | zero => intro s q0 q1 q2; exact ⟨s, q0, q1, Or.inl (by omega), Int.le_refl _⟩
      | succ n ih =>
        intro s q0 q1 q2
        by_cases q : s < T1 + P ∨ t - s < T2 + P
        · exact ⟨s, q0, q1, q, Int.le_refl _⟩
        · obtain ⟨s', r0, r1, r2, r3⟩ := ih (s - P) (by omega) (by omega) (by omega)
          refine ⟨s', r0, r1, r2, ?_⟩
          have f1 := hF (s - P) (by omega)
          rw [show s - P + P = s by omega] at f1
          have g1 := hG (t - s) (by omega)
          rw [show t - s + P = t - (s - P) by omega] at g1
          omega
    exact key _ s h0 h1 (Nat.le_refl _)
-- times and shift
def timesS (n : Int) (F : Int → Int) (t : Int) : Int := F t * n
def shiftS (n : Int) (F : Int → Int) (t : Int) : Int := if t < n then 0 else F (t - n)
theorem times_mono {F : Int → Int} {n : Int} (hn : 0 ≤ n) (hF : Mono F) : Mono (timesS n F) :=
  ⟨fun s hs => Int.mul_nonneg (hF.1 s hs) hn, fun s u hs hu => Int.mul_le_mul_of_nonneg_right (hF.2 s u hs hu) hn⟩
theorem times_per {F : Int → Int} {n a P c : Int} (hF : Per F a P c) : Per (timesS n F) a P (n * c) := by
  intro t ht
  show F (t + P) * n = F t * n + n * c
  rw [hF t ht, Int.add_mul, Int.mul_comm n c]
theorem times_bnd {F : Int → Int} {n k B : Int} (hn : 0 ≤ n) (hn1 : n ≤ 1000) (hF : Bnd F k B) : Bnd (timesS n F) k (B * 1000) := by
  intro t h0 h1
  have := hF t h0 h1
  exact ⟨Int.mul_nonneg this.1 hn, Int.mul_le_mul this.2 hn1 hn (by omega)⟩
theorem shift_mono {F : Int → Int} {n : Int} (hF : Mono F) : Mono (shiftS n F) := by
  refine ⟨fun s hs => ?_, fun s u hs hu => ?_⟩
  · unfold shiftS; split
    · omega
    · exact hF.1 _ (by omega)
  · unfold shiftS
    by_cases h1 : s < n
    · rw [if_pos h1]; split
      · omega
      · exact hF.1 _ (by omega)
    · rw [if_neg h1, if_neg (by omega)]
      exact hF.2 _ _ (by omega) (by omega)
theorem shift_per {F : Int → Int} {n a P c : Int} (hn : 0 ≤ a) (hP : 0 ≤ P) (hF : Per F a P c) : Per (shiftS n F) (n + a) P c := by
  intro t ht
  unfold shiftS
  rw [if_neg (by omega), if_neg (by omega), show t + P - n = t - n + P by omega]
  exact hF _ (by omega)
theorem shift_bnd {F : Int → Int} {n k B : Int} (hn : 0 ≤ n) (hB : 0 ≤ B) (hF : Bnd F k B) : Bnd (shiftS n F) k B := by
  intro t h0 h1
  unfold shiftS; split
  · omega
  · exact hF _ (by omega) (by omega)
theorem cval_bnd {T D C n : Int} {am : Nat → Int} (ok : CvOk T D C am) (hn : n ≤ 3000) : Bnd (cval T D C am) n 4000000000000 := by
  intro t h0 h1
  have := cval_top ok h0
  exact ⟨cval_nn ok h0, by omega⟩
theorem cval_bnd4 {T D C n : Int} {am : Nat → Int} (ok : CvOk T D C am) (hn : n ≤ 3000) : Bnd (cval T D C am) n 4000000000000 := cval_bnd ok hn
