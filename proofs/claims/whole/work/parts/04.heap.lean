/-! ===== the rows of EX on cells: arrays, fields, new objects ===== -/
section XH
variable {G : aG} {X : aM} {d mc ms : Nat} {Q : Option aV → aH → Prop} {pc : Nat} {L L' : List (Nat × aV)} {st : List aV} {h : aH} {kc ks : Nat}
theorem x_iaload {a n : Nat} {g : Nat → Int} {i : Int} (hd : decode X.2.1 pc = .ok (.iaload, 1)) (ha : h a = some (eI n g)) (hi0 : 0 ≤ i) (hin : i < n) (k : EX G X d mc ms Q (pc + 1) L (vI (g i.toNat) :: st) h kc ks) : EX G X d mc ms Q pc L (vI i :: vA a :: st) h kc ks := by
  intro p e s m args below meth c A H ls locs C hA w hS ho h1 h2 hl
  obtain ⟨Ls, q, hP, hD, hL, hm, hk⟩ := w.get ha
  have oi := ok_I h1
  refine va_iald C.1 C.2.1 C.2.2.2.2.2.2.2.2.1 hP q 0 hk rfl (i32_in oi hi0 hin) hd ?_
  rw [i32_nat oi hi0]
  exact k p e s m args below meth c A H ls locs C hA w hS ho (ok_c (ho a _ ha _) (ok_t (ok_t h1))) h2 hl
theorem x_laload {a n : Nat} {g : Nat → Int} {i : Int} (hd : decode X.2.1 pc = .ok (.laload, 1)) (ha : h a = some (eJ n g)) (hi0 : 0 ≤ i) (hin : i < n) (k : EX G X d mc ms Q (pc + 1) L (vJ (g i.toNat) :: st) h kc ks) : EX G X d mc ms Q pc L (vI i :: vA a :: st) h kc ks := by
  intro p e s m args below meth c A H ls locs C hA w hS ho h1 h2 hl
  obtain ⟨Ls, q, hP, hD, hL, hm, hk⟩ := w.get ha
  have oi := ok_I h1
  refine va_lald C.1 C.2.1 C.2.2.2.2.2.2.2.2.1 hP q 1 hk rfl (i32_in oi hi0 hin) hd ?_
  rw [i32_nat oi hi0]
  exact k p e s m args below meth c A H ls locs C hA w hS ho (ok_c (ho a _ ha _) (ok_t (ok_t h1))) h2 hl
theorem x_aaload {a n : Nat} {r : Nat → Option Nat} {i : Int} (hd : decode X.2.1 pc = .ok (.aaload, 1)) (ha : h a = some (eR n r)) (hi0 : 0 ≤ i) (hin : i < n) (k : EX G X d mc ms Q (pc + 1) L (vR (r i.toNat) :: st) h kc ks) : EX G X d mc ms Q pc L (vI i :: vA a :: st) h kc ks := by
  intro p e s m args below meth c A H ls locs C hA w hS ho h1 h2 hl
  obtain ⟨Ls, q, hP, hD, hL, hm, hk⟩ := w.get ha
  have oi := ok_I h1
  refine va_aldq C.1 C.2.1 C.2.2.2.2.2.2.2.2.1 hP q 2 hk rfl (i32_in oi hi0 hin) hd ?_
  rw [i32_nat oi hi0]
  exact k p e s m args below meth c A H ls locs C hA w hS ho (ok_c trivial (ok_t (ok_t h1))) h2 hl
theorem updL_cv (g : Nat → Int) (j : Nat) (x : Int) : vp_updL (fun i => Int64.ofInt (g i)) j (Int64.ofInt x) = fun i => Int64.ofInt (va_up g j x i) := by
  funext i
  simp only [vp_updL, va_up]
  by_cases hi : i = j <;> simp [hi]
theorem upd_cv (g : Nat → Int) (j : Nat) (x : Int) : upd (fun i => Int32.ofInt (g i)) j (Int32.ofInt x) = fun i => Int32.ofInt (va_up g j x i) := by
  funext i
  simp only [upd, va_up]
  by_cases hi : i = j <;> simp [hi]
theorem okup {P : Int → Prop} {g : Nat → Int} {j : Nat} {x : Int} (hg : ∀ i, P (g i)) (hx : P x) : ∀ i, P (va_up g j x i) := by
  intro i
  simp only [va_up]
  by_cases hi : i = j <;> simp [hi, hx, hg]
theorem x_lastore {a n : Nat} {g : Nat → Int} {i x : Int} (hd : decode X.2.1 pc = .ok (.lastore, 1)) (ha : h a = some (eJ n g)) (hi0 : 0 ≤ i) (hin : i < n) (k : EX G X d mc ms Q (pc + 1) L st (hset h a (eJ n (va_up g i.toNat x))) kc ks) : EX G X d mc ms Q pc L (vJ x :: vI i :: vA a :: st) h kc ks := by
  intro p e s m args below meth c A H ls locs C hA w hS ho h1 h2 hl
  obtain ⟨Ls, q, hP, hD, hL, hm, hk⟩ := w.get ha
  have oi := ok_I (ok_t h1)
  refine va_last (A := A) C.1 C.2.1 C.2.2.2.2.2.2.2.2.1 hP hD hS q 1 hk rfl (i32_in oi hi0 hin) hd fun H1 locs1 hP1 hD1 hS1 => ?_
  rw [i32_nat oi hi0, updL_cv] at hP1 hD1
  exact k p e s m args below meth c A H1 ls locs1 C hA (aWd.upd ha hD hL hm hk (e := eJ n (va_up g i.toNat x)) hP1 hD1) hS1 (ho.set (okup (P := okJ) (ho a _ ha) (ok_J h1))) (ok_t (ok_t (ok_t h1))) h2 hl
theorem x_iastore {a n : Nat} {g : Nat → Int} {i x : Int} (hd : decode X.2.1 pc = .ok (.iastore, 1)) (ha : h a = some (eI n g)) (hi0 : 0 ≤ i) (hin : i < n) (k : EX G X d mc ms Q (pc + 1) L st (hset h a (eI n (va_up g i.toNat x))) kc ks) : EX G X d mc ms Q pc L (vI x :: vI i :: vA a :: st) h kc ks := by
  intro p e s m args below meth c A H ls locs C hA w hS ho h1 h2 hl
  obtain ⟨Ls, q, hP, hD, hL, hm, hk⟩ := w.get ha
  have oi := ok_I (ok_t h1)
  refine va_iast (A := A) C.1 C.2.1 C.2.2.2.2.2.2.2.2.1 hP hD hS q 0 hk rfl (i32_in oi hi0 hin) hd fun H1 locs1 hP1 hD1 hS1 => ?_
  rw [i32_nat oi hi0, upd_cv] at hP1 hD1
  exact k p e s m args below meth c A H1 ls locs1 C hA (aWd.upd ha hD hL hm hk (e := eI n (va_up g i.toNat x)) hP1 hD1) hS1 (ho.set (okup (P := okI) (ho a _ ha) (ok_I h1))) (ok_t (ok_t (ok_t h1))) h2 hl
theorem x_aastoreN {a n : Nat} {r : Nat → Option Nat} {i : Int} (hd : decode X.2.1 pc = .ok (.aastore, 1)) (ha : h a = some (eR n r)) (hi0 : 0 ≤ i) (hin : i < n) (k : EX G X d mc ms Q (pc + 1) L st (hset h a (eR n (va_up r i.toNat none))) kc ks) : EX G X d mc ms Q pc L (vN :: vI i :: vA a :: st) h kc ks := by
  intro p e s m args below meth c A H ls locs C hA w hS ho h1 h2 hl
  obtain ⟨Ls, q, hP, hD, hL, hm, hk⟩ := w.get ha
  have oi := ok_I (ok_t h1)
  refine va_astqN (A := A) C.1 C.2.1 C.2.2.2.2.2.2.2.2.1 hP hD hS q 2 hk rfl (i32_in oi hi0 hin) hd fun H1 locs1 hP1 hD1 hS1 => ?_
  rw [i32_nat oi hi0] at hP1 hD1
  exact k p e s m args below meth c A H1 ls locs1 C hA (aWd.upd ha hD hL hm hk (e := eR n (va_up r i.toNat none)) hP1 hD1) hS1 (ho.set trivial) (ok_t (ok_t (ok_t h1))) h2 hl
/-- a curve of a kind comes into an array of curves -/
theorem x_aastore {a n b ci : Nat} {fs : List aV} {r : Nat → Option Nat} {i : Int} (hd : decode X.2.1 pc = .ok (.aastore, 1)) (ha : h a = some (eR n r)) (hb : h b = some (eO ci fs)) (hci : ci ∈ [0, 1, 2, 4, 6]) (hi0 : 0 ≤ i) (hin : i < n) (k : EX G X d mc ms Q (pc + 1) L st (hset h a (eR n (va_up r i.toNat (some b)))) kc ks) : EX G X d mc ms Q pc L (vA b :: vI i :: vA a :: st) h kc ks := by
  intro p e s m args below meth c A H ls locs C hA w hS ho h1 h2 hl
  obtain ⟨Ls, q, hP, hD, hL, hm, hk⟩ := w.get ha
  have oi := ok_I (ok_t h1)
  have hbm : b ∈ Ls := (hL b).mpr (by rw [hb]; rfl)
  obtain ⟨qb, hkb⟩ := va_pl_get (X := []) (f := ceh G h) hbm
  rw [List.nil_append, ceh_at G hb] at hkb
  have fin : ∀ (H1 : Heap) (locs1 : List Loc), va_P (gD G) vwCl ((va_pl Ls (ceh G h)).set q (a, .inl (G.2.2.2.2.2, n, .inr (.inr (.inr (.inr (va_up r (Int32.ofInt i).toNatClampNeg (some b)))))))) H1 → va_D A ((va_pl Ls (ceh G h)).set q (a, .inl (G.2.2.2.2.2, n, .inr (.inr (.inr (.inr (va_up r (Int32.ofInt i).toNatClampNeg (some b)))))))) → va_S A s.heap H1 locs1 → W p G.1 e (aRm d mc ms) s m args below meth c H1 locs1 kc ks (MQ below (aQ G A Q) args s mc ms A) (F0 m (pc + 1) ls (st.map cv)) := by
    intro H1 locs1 hP1 hD1 hS1
    rw [i32_nat oi hi0] at hP1 hD1
    exact k p e s m args below meth c A H1 ls locs1 C hA (aWd.upd ha hD hL hm hk (e := eR n (va_up r i.toNat (some b))) hP1 hD1) hS1 (ho.set trivial) (ok_t (ok_t (ok_t h1))) h2 hl
  have hn := C.2.2.2.2.2.2.2.2.2.2
  simp only [List.mem_cons, List.not_mem_nil, or_false] at hci
  rcases hci with rfl | rfl | rfl | rfl | rfl
  · exact va_astqO (A := A) (E := RX1) C.1 C.2.1 C.2.2.2.2.2.2.2.2.1 hP hD hS q 2 qb 0 hk rfl (hn (.castable RX0 RX1) (by decide +kernel)) hkb rfl (i32_in oi hi0 hin) hd fin
  · exact va_astq (A := A) C.1 C.2.1 C.2.2.2.2.2.2.2.2.1 hP hD hS q 2 qb 1 hk rfl hkb rfl (i32_in oi hi0 hin) hd fin
  · exact va_astqO (A := A) (E := RX1) C.1 C.2.1 C.2.2.2.2.2.2.2.2.1 hP hD hS q 2 qb 2 hk rfl (hn (.castable RX2 RX1) (by decide +kernel)) hkb rfl (i32_in oi hi0 hin) hd fin
  · exact va_astqO (A := A) (E := RX1) C.1 C.2.1 C.2.2.2.2.2.2.2.2.1 hP hD hS q 2 qb 4 hk rfl (hn (.castable RX5 RX1) (by decide +kernel)) hkb rfl (i32_in oi hi0 hin) hd fin
  · exact va_astqO (A := A) (E := RX1) C.1 C.2.1 C.2.2.2.2.2.2.2.2.1 hP hD hS q 2 qb 6 hk rfl (hn (.castable RX7 RX1) (by decide +kernel)) hkb rfl (i32_in oi hi0 hin) hd fin
theorem i32_ofNat (n : Nat) : Int32.ofNat n = Int32.ofInt (n : Int) := (Int32.ofInt_eq_ofNat (n := n)).symm
theorem x_alenJ {a n : Nat} {g : Nat → Int} (hd : decode X.2.1 pc = .ok (.arraylength, 1)) (ha : h a = some (eJ n g)) (hn : n ≤ 2147483647) (k : EX G X d mc ms Q (pc + 1) L (vI (n : Int) :: st) h kc ks) : EX G X d mc ms Q pc L (vA a :: st) h kc ks := by
  intro p e s m args below meth c A H ls locs C hA w hS ho h1 h2 hl
  obtain ⟨Ls, q, hP, hD, hL, hm, hk⟩ := w.get ha
  exact va_alen C.1 C.2.1 C.2.2.2.2.2.2.2.2.1 hP q 1 hk rfl (i32_ofNat n) hd (k p e s m args below meth c A H ls locs C hA w hS ho (ok_c (show okI _ by unfold okI; omega) (ok_t h1)) h2 hl)
theorem x_alenI {a n : Nat} {g : Nat → Int} (hd : decode X.2.1 pc = .ok (.arraylength, 1)) (ha : h a = some (eI n g)) (hn : n ≤ 2147483647) (k : EX G X d mc ms Q (pc + 1) L (vI (n : Int) :: st) h kc ks) : EX G X d mc ms Q pc L (vA a :: st) h kc ks := by
  intro p e s m args below meth c A H ls locs C hA w hS ho h1 h2 hl
  obtain ⟨Ls, q, hP, hD, hL, hm, hk⟩ := w.get ha
  exact va_alen C.1 C.2.1 C.2.2.2.2.2.2.2.2.1 hP q 0 hk rfl (i32_ofNat n) hd (k p e s m args below meth c A H ls locs C hA w hS ho (ok_c (show okI _ by unfold okI; omega) (ok_t h1)) h2 hl)
theorem x_alenR {a n : Nat} {r : Nat → Option Nat} (hd : decode X.2.1 pc = .ok (.arraylength, 1)) (ha : h a = some (eR n r)) (hn : n ≤ 2147483647) (k : EX G X d mc ms Q (pc + 1) L (vI (n : Int) :: st) h kc ks) : EX G X d mc ms Q pc L (vA a :: st) h kc ks := by
  intro p e s m args below meth c A H ls locs C hA w hS ho h1 h2 hl
  obtain ⟨Ls, q, hP, hD, hL, hm, hk⟩ := w.get ha
  exact va_alen C.1 C.2.1 C.2.2.2.2.2.2.2.2.1 hP q 2 hk rfl (i32_ofNat n) hd (k p e s m args below meth c A H ls locs C hA w hS ho (ok_c (show okI _ by unfold okI; omega) (ok_t h1)) h2 hl)
-- fields: what the tables say of a field's reference in a class's code, for a receiver of a class
def aFld (own : String) (idx ci k : Nat) : Prop := ∃ (C ref : String) (T : u_T) (N : Nat), vwCl[ci]? = some (C, T, N) ∧ k < N ∧ (∀ w ∈ u_ws C T N, w ∈ lw_ok) ∧ Cond.fieldLink own idx ref (T k).2.1 (T k).2.2.1 ∈ lw_ok ∧ (ref = (T k).1 ∨ Cond.sameField ref (T k).1 (T k).2.1 (T k).2.2.1 ∈ lw_ok)
theorem aFld.same {s : State} {args : Array Value} {ref : String} {T : u_T} {k : Nat} (hts : ∀ w ∈ lw_ok, w.before args s = true) (h : ref = (T k).1 ∨ Cond.sameField ref (T k).1 (T k).2.1 (T k).2.2.1 ∈ lw_ok) : ∀ x, s.fieldFound? (T k).1 (T k).2.1 (T k).2.2.1 = some x → s.fieldFound? ref (T k).2.1 (T k).2.2.1 = some x := by
  intro x hx
  rcases h with rfl | h
  · exact hx
  · exact u_same (hts _ h) x hx
theorem map_get {fs : List aV} {k : Nat} {v : aV} (h : fs[k]? = some v) : (fs.map cv)[k]? = some (cv v) := by rw [List.getElem?_map, h]; rfl
theorem x_get {a ci : Nat} {fs : List aV} {v : aV} {idx : Nat} (f : Nat) (hd : decode X.2.1 pc = .ok (.getfield idx, 3)) (hF : aFld X.1.cls idx ci f) (ha : h a = some (eO ci fs)) (hv : fs[f]? = some v) (k : EX G X d mc ms Q (pc + 3) L (v :: st) h kc ks) : EX G X d mc ms Q pc L (vA a :: st) h kc ks := by
  intro p e s m args below meth c A H ls locs C hA w hS ho h1 h2 hl
  obtain ⟨Ls, q, hP, hD, hL, hm, hk⟩ := w.get ha
  obtain ⟨K, ref, T, N, hc, hkN, hin, hlk, hsm⟩ := hF
  have hts := C.2.2.2.2.2.1
  exact va_get C.1 C.2.1 hts hin C.2.2.2.2.1 C.2.2.2.2.2.2.2.2.1 hP q hk hc f hkN (hts _ hlk) (aFld.same hts hsm) (map_get hv) hd (k p e s m args below meth c A H ls locs C hA w hS ho (ok_c (ho a _ ha v (List.mem_of_getElem? hv)) (ok_t h1)) h2 hl)
/-- a private field of a nest mate -/
def aFldN (own : String) (idx ci k : Nat) : Prop := ∃ (C ref host : String) (T : u_T) (N : Nat), vwCl[ci]? = some (C, T, N) ∧ k < N ∧ (∀ w ∈ u_ws C T N, w ∈ lw_ok) ∧ Cond.fieldLinkNest own idx ref (T k).2.1 (T k).2.2.1 host ∈ aNW ∧ ref = (T k).1
theorem x_getN {a ci : Nat} {fs : List aV} {v : aV} {idx : Nat} (f : Nat) (hd : decode X.2.1 pc = .ok (.getfield idx, 3)) (hF : aFldN X.1.cls idx ci f) (ha : h a = some (eO ci fs)) (hv : fs[f]? = some v) (k : EX G X d mc ms Q (pc + 3) L (v :: st) h kc ks) : EX G X d mc ms Q pc L (vA a :: st) h kc ks := by
  intro p e s m args below meth c A H ls locs C hA w hS ho h1 h2 hl
  obtain ⟨Ls, q, hP, hD, hL, hm, hk⟩ := w.get ha
  obtain ⟨K, ref, host, T, N, hc, hkN, hin, hlk, hsm⟩ := hF
  have hts := C.2.2.2.2.2.1
  have hn := va_Nw.use (A := args) (aNW_tables _ hlk) (C.2.2.2.2.2.2.2.2.2.2 _ hlk)
  exact va_getN C.1 C.2.1 hts hin C.2.2.2.2.1 C.2.2.2.2.2.2.2.2.1 hP q hk hc f hkN hn (aFld.same hts (Or.inl hsm)) (map_get hv) hd (k p e s m args below meth c A H ls locs C hA w hS ho (ok_c (ho a _ ha v (List.mem_of_getElem? hv)) (ok_t h1)) h2 hl)
-- writing
def aPut (own : String) (idx ci k : Nat) (ty : FieldType) (fin : Bool) : Prop := ∃ (C ref : String) (T : u_T) (N : Nat) (ty0 : Nat → FieldType), vwCl[ci]? = some (C, T, N) ∧ k < N ∧ (∀ w ∈ u_ws C T N, w ∈ lw_ok) ∧ Cond.fieldLink own idx ref (T k).2.1 (T k).2.2.1 ∈ lw_ok ∧ ref = (T k).1 ∧
  (∀ k, k < N → parseFieldDescriptor (T k).2.2.1 = some (ty0 k)) ∧ (∀ a, a < N → ∀ b, b < N → a ≠ b → (T a).2.1 ≠ (T b).2.1) ∧ parseFieldDescriptor (T k).2.2.1 = some ty ∧ (T k).2.2.2 = fin ∧ (fin = true → (T k).1 = own)
theorem map_set {fs : List aV} (k : Nat) (v : aV) : (fs.map cv).set k (cv v) = (fs.set k v).map cv := List.map_set.symm
theorem okset {fs : List aV} {k : Nat} {v : aV} (h : ∀ u ∈ fs, okV u) (hv : okV v) : ∀ u ∈ fs.set k v, okV u := by
  intro u hu
  rcases List.mem_or_eq_of_mem_set hu with h1 | rfl
  · exact h u h1
  · exact hv
theorem x_put {a ci : Nat} {fs : List aV} {v : aV} {idx : Nat} {ty : FieldType} (f : Nat) (hd : decode X.2.1 pc = .ok (.putfield idx, 3)) (hF : aPut X.1.cls idx ci f ty false) (ha : h a = some (eO ci fs)) (hn : narrow ty (cv v) = cv v) (hfit : fits ty (cv v) = true) (hlen : f < fs.length) (k : EX G X d mc ms Q (pc + 3) L st (hset h a (eO ci (fs.set f v))) kc ks) : EX G X d mc ms Q pc L (v :: vA a :: st) h kc ks := by
  intro p e s m args below meth c A H ls locs C hA w hS ho h1 h2 hl
  obtain ⟨Ls, q, hP, hD, hL, hm, hk⟩ := w.get ha
  obtain ⟨K, ref, T, N, ty0, hc, hkN, hin, hlk, hsm, hty, hnm, hpd, hfin, -⟩ := hF
  have hts := C.2.2.2.2.2.1
  refine va_put (A := A) C.1 C.2.1 hts hin ty0 hty hnm C.2.2.2.2.1 C.2.2.2.2.2.2.2.2.1 hP hD hS q hk hc f hkN (hts _ hlk) (aFld.same hts (Or.inl hsm)) hfin hpd hn hfit (by rw [List.length_map]; exact hlen) hd fun H1 locs1 hP1 hD1 hS1 => ?_
  rw [map_set] at hP1 hD1
  exact k p e s m args below meth c A H1 ls locs1 C hA (aWd.upd ha hD hL hm hk (e := eO ci (fs.set f v)) hP1 hD1) hS1 (ho.set (okset (ho a _ ha) (ok_h h1))) (ok_t (ok_t h1)) h2 hl
theorem x_putF {a ci : Nat} {fs : List aV} {v : aV} {idx : Nat} {ty : FieldType} (f : Nat) (hd : decode X.2.1 pc = .ok (.putfield idx, 3)) (hinit : X.1.name = "<init>") (hF : aPut X.1.cls idx ci f ty true) (ha : h a = some (eO ci fs)) (hn : narrow ty (cv v) = cv v) (hfit : fits ty (cv v) = true) (hlen : f < fs.length) (k : EX G X d mc ms Q (pc + 3) L st (hset h a (eO ci (fs.set f v))) kc ks) : EX G X d mc ms Q pc L (v :: vA a :: st) h kc ks := by
  intro p e s m args below meth c A H ls locs C hA w hS ho h1 h2 hl
  obtain ⟨Ls, q, hP, hD, hL, hm, hk⟩ := w.get ha
  obtain ⟨K, ref, T, N, ty0, hc, hkN, hin, hlk, hsm, hty, hnm, hpd, hfin, hdecl⟩ := hF
  have hts := C.2.2.2.2.2.1
  refine va_putF (A := A) C.1 C.2.1 hts hin ty0 hty hnm C.2.2.2.2.1 C.2.2.2.2.2.2.2.2.1 hP hD hS q hk hc f hkN (hts _ hlk) (aFld.same hts (Or.inl hsm)) hfin (C.2.2.2.2.2.2.2.1 hinit) (hdecl rfl) hpd hn hfit (by rw [List.length_map]; exact hlen) hd fun H1 locs1 hP1 hD1 hS1 => ?_
  rw [map_set] at hP1 hD1
  exact k p e s m args below meth c A H1 ls locs1 C hA (aWd.upd ha hD hL hm hk (e := eO ci (fs.set f v)) hP1 hD1) hS1 (ho.set (okset (ho a _ ha) (ok_h h1))) (ok_t (ok_t h1)) h2 hl
/-- a private field of a nest mate -/
def aPutN (own : String) (idx ci k : Nat) (ty : FieldType) : Prop := ∃ (C ref host : String) (T : u_T) (N : Nat) (ty0 : Nat → FieldType), vwCl[ci]? = some (C, T, N) ∧ k < N ∧ (∀ w ∈ u_ws C T N, w ∈ lw_ok) ∧ Cond.fieldLinkNest own idx ref (T k).2.1 (T k).2.2.1 host ∈ aNW ∧ ref = (T k).1 ∧
  (∀ k, k < N → parseFieldDescriptor (T k).2.2.1 = some (ty0 k)) ∧ (∀ a, a < N → ∀ b, b < N → a ≠ b → (T a).2.1 ≠ (T b).2.1) ∧ parseFieldDescriptor (T k).2.2.1 = some ty ∧ (T k).2.2.2 = false
theorem x_putN {a ci : Nat} {fs : List aV} {v : aV} {idx : Nat} {ty : FieldType} (f : Nat) (hd : decode X.2.1 pc = .ok (.putfield idx, 3)) (hF : aPutN X.1.cls idx ci f ty) (ha : h a = some (eO ci fs)) (hn : narrow ty (cv v) = cv v) (hfit : fits ty (cv v) = true) (hlen : f < fs.length) (k : EX G X d mc ms Q (pc + 3) L st (hset h a (eO ci (fs.set f v))) kc ks) : EX G X d mc ms Q pc L (v :: vA a :: st) h kc ks := by
  intro p e s m args below meth c A H ls locs C hA w hS ho h1 h2 hl
  obtain ⟨Ls, q, hP, hD, hL, hm, hk⟩ := w.get ha
  obtain ⟨K, ref, host, T, N, ty0, hc, hkN, hin, hlk, hsm, hty, hnm, hpd, hfin⟩ := hF
  have hts := C.2.2.2.2.2.1
  have hn2 := va_Nw.use (A := args) (aNW_tables _ hlk) (C.2.2.2.2.2.2.2.2.2.2 _ hlk)
  refine va_putN (A := A) C.1 C.2.1 hts hin ty0 hty hnm C.2.2.2.2.1 C.2.2.2.2.2.2.2.2.1 hP hD hS q hk hc f hkN hn2 (aFld.same hts (Or.inl hsm)) hfin hpd hn hfit (by rw [List.length_map]; exact hlen) hd fun H1 locs1 hP1 hD1 hS1 => ?_
  rw [map_set] at hP1 hD1
  exact k p e s m args below meth c A H1 ls locs1 C hA (aWd.upd ha hD hL hm hk (e := eO ci (fs.set f v)) hP1 hD1) hS1 (ho.set (okset (ho a _ ha) (ok_h h1))) (ok_t (ok_t h1)) h2 hl
-- new cells
def aNew (own : String) (idx ci : Nat) (fs : List aV) : Prop := ∃ (C : String) (T : u_T) (N : Nat) (ty : Nat → FieldType), vwCl[ci]? = some (C, T, N) ∧ N = fs.length ∧ (∀ w ∈ u_ws C T N, w ∈ lw_ok) ∧ (∀ k, k < N → parseFieldDescriptor (T k).2.2.1 = some (ty k)) ∧ Cond.classLink own idx C ∈ lw_ok ∧ Cond.instantiable C N ∈ lw_ok ∧ Cond.initialized C ∈ lw_ok ∧ (∀ j, j < N → defaultValue (ty j) = vp_V (fs.map cv) j) ∧ ∀ v ∈ fs, okV v
theorem aWd.kept {G : aG} {A : Nat → Prop} {h : aH} {H H1 : Heap} (w : aWd G A h H) (hq : ∀ q : Nat, q < H.size → H1[q]? = H[q]?) {e : aE} {ho : h H.size = none} (he : va_at (gD G) vwCl (H.size, ce G e) H1) (hA : A H.size) : aWd G A (hset h H.size e) H1 := by
  obtain ⟨Ls, hP, hD, hL⟩ := w
  refine aWd.push (Ls := Ls) hL ho ?_ ?_
  · refine va_P.app (hP.kept fun k q hk => hq _ (hP k q hk).lt) ?_
    intro k q hk
    have hz : k < 1 := (List.getElem?_eq_some_iff.mp hk).1
    rw [show k = 0 by omega] at hk
    cases hk
    exact he
  · exact hD.push hP rfl hA
theorem aWd.fresh {G : aG} {A : Nat → Prop} {h : aH} {H : Heap} (w : aWd G A h H) : h H.size = none := by
  cases hh : h H.size with
  | none => rfl
  | some e =>
    have := w.lt (a := H.size) (by rw [hh]; rfl)
    omega
theorem x_new {ci : Nat} {fs : List aV} {idx : Nat} (hd : decode X.2.1 pc = .ok (.new idx, 3)) (hF : aNew X.1.cls idx ci fs) (hc : kc + 1 ≤ mc) (hs : ks + fs.length ≤ ms) (k : ∀ q : Nat, h q = none → (∀ b : Nat, (h b).isSome = true → b < q) → EX G X d mc ms Q (pc + 3) L (vA q :: st) (hset h q (eO ci fs)) (kc + 1) (ks + fs.length)) : EX G X d mc ms Q pc L st h kc ks := by
  intro p e s m args below meth c A H ls locs C hA w hS ho h1 h2 hl
  obtain ⟨K, T, N, ty, hcl, hN, hin, hty, hlk, hins, hini, hdf, hok⟩ := hF
  have hts := C.2.2.2.2.2.1
  have hKn := C.2.2.2.2.2.2.2.2.1.1 ci _ hcl
  refine W.newcK C.1 C.2.1 C.2.2.2.2.1 (hts _ hlk) (hts _ hins) (hts _ hini) rfl hd hc (by rw [hN]; exact hs) hKn.2.1 rfl fun H1 kC hkC e1 z1 o1 => ?_
  have hs1 : va_S A s.heap H1 locs := ⟨Nat.le_trans hS.1 (by omega), fun x q1 q2 => (o1 x (Nat.lt_of_lt_of_le q1 hS.1)).trans (hS.2.1 x q1 q2), hS.2.2⟩
  have hw1 : aWd G A (hset h H.size (eO ci fs)) H1 := w.kept (ho := w.fresh) o1 ⟨_, hcl, (u_born ty hts hin hKn hkC e1 hty).to hdf⟩ (hA _ hS.1)
  rw [hN]
  exact k H.size w.fresh (fun b hb => w.lt hb) p e s m args below meth c A H1 ls locs C hA hw1 hs1 (ho.set hok) (ok_c trivial h1) h2 hl
theorem x_newJ {n : Int} (hd : decode X.2.1 pc = .ok (.newarray .long, 2)) (hn0 : 0 ≤ n) (hn : n ≤ 100000) (hc : kc + 1 ≤ mc) (hs : ks + n.toNat ≤ ms) (k : ∀ q : Nat, h q = none → (∀ b : Nat, (h b).isSome = true → b < q) → EX G X d mc ms Q (pc + 2) L (vA q :: st) (hset h q (eJ n.toNat (fun _ => 0))) (kc + 1) (ks + n.toNat)) : EX G X d mc ms Q pc L (vI n :: st) h kc ks := by
  intro p e s m args below meth c A H ls locs C hA w hS ho h1 h2 hl
  have hts := C.2.2.2.2.2.1
  have oi := ok_I h1
  have ha : Cond.arrayClass .long ∈ lw_ok := by decide +kernel
  refine va_newaK C.1 C.2.1 (atype := .long) (hts _ ha) rfl hd rfl ?_ (i32_nat oi hn0) ?_ hc hs rfl fun H1 cA e1 z1 o1 hAr hNm => ?_
  · intro q
    have := (i32_lt oi okI_0).mp q
    omega
  · show n.toNat * 8 ≤ 536870912
    omega
  have hcA : cA = G.2.2.2.2.1 := by
    have := (C.2.2.2.2.2.2.2.2.1.2 1 _ rfl).2
    exact Option.some.inj (hNm.symm.trans this)
  subst hcA
  have hs1 : va_S A s.heap H1 locs := ⟨Nat.le_trans hS.1 (by omega), fun x q1 q2 => (o1 x (Nat.lt_of_lt_of_le q1 hS.1)).trans (hS.2.1 x q1 q2), hS.2.2⟩
  have hw1 : aWd G A (hset h H.size (eJ n.toNat (fun _ => 0))) H1 := w.kept (ho := w.fresh) o1 e1 (hA _ hS.1)
  exact k H.size w.fresh (fun b hb => w.lt hb) p e s m args below meth c A H1 ls locs C hA hw1 hs1 (ho.set (fun _ => okJ_0)) (ok_c trivial (ok_t h1)) h2 hl
theorem x_newI {n : Int} (hd : decode X.2.1 pc = .ok (.newarray .int, 2)) (hn0 : 0 ≤ n) (hn : n ≤ 100000) (hc : kc + 1 ≤ mc) (hs : ks + n.toNat ≤ ms) (k : ∀ q : Nat, h q = none → (∀ b : Nat, (h b).isSome = true → b < q) → EX G X d mc ms Q (pc + 2) L (vA q :: st) (hset h q (eI n.toNat (fun _ => 0))) (kc + 1) (ks + n.toNat)) : EX G X d mc ms Q pc L (vI n :: st) h kc ks := by
  intro p e s m args below meth c A H ls locs C hA w hS ho h1 h2 hl
  have hts := C.2.2.2.2.2.1
  have oi := ok_I h1
  have ha : Cond.arrayClass .int ∈ lw_ok := by decide +kernel
  refine va_newaK C.1 C.2.1 (atype := .int) (hts _ ha) rfl hd rfl ?_ (i32_nat oi hn0) ?_ hc hs rfl fun H1 cA e1 z1 o1 hAr hNm => ?_
  · intro q
    have := (i32_lt oi okI_0).mp q
    omega
  · show n.toNat * 4 ≤ 536870912
    omega
  have hcA : cA = G.2.2.2.1 := by
    have := (C.2.2.2.2.2.2.2.2.1.2 0 _ rfl).2
    exact Option.some.inj (hNm.symm.trans this)
  subst hcA
  have hs1 : va_S A s.heap H1 locs := ⟨Nat.le_trans hS.1 (by omega), fun x q1 q2 => (o1 x (Nat.lt_of_lt_of_le q1 hS.1)).trans (hS.2.1 x q1 q2), hS.2.2⟩
  have hw1 : aWd G A (hset h H.size (eI n.toNat (fun _ => 0))) H1 := w.kept (ho := w.fresh) o1 e1 (hA _ hS.1)
  exact k H.size w.fresh (fun b hb => w.lt hb) p e s m args below meth c A H1 ls locs C hA hw1 hs1 (ho.set (fun _ => okI_0)) (ok_c trivial (ok_t h1)) h2 hl
theorem x_newR {n : Int} {idx : Nat} (hd : decode X.2.1 pc = .ok (.anewarray idx, 3)) (hlk : Cond.classLink X.1.cls idx RX1 ∈ lw_ok) (hn0 : 0 ≤ n) (hn : n ≤ 100000) (hc : kc + 1 ≤ mc) (hs : ks + n.toNat ≤ ms) (k : ∀ q : Nat, h q = none → (∀ b : Nat, (h b).isSome = true → b < q) → EX G X d mc ms Q (pc + 3) L (vA q :: st) (hset h q (eR n.toNat (fun _ => none))) (kc + 1) (ks + n.toNat)) : EX G X d mc ms Q pc L (vI n :: st) h kc ks := by
  intro p e s m args below meth c A H ls locs C hA w hS ho h1 h2 hl
  have hts := C.2.2.2.2.2.1
  have oi := ok_I h1
  have en := i32_nat oi hn0
  refine W.anew C.1 C.2.1 C.2.2.2.2.1 (hts _ hlk) (va_AO.use C.2.2.2.2.2.2.2.2.2.1) rfl hd rfl ?_ (by rw [en]; omega) hc (by rw [en]; exact hs) fun cA kA comp f1 f2 f3 f4 => ?_
  · intro q
    have := (i32_lt oi okI_0).mp q
    omega
  obtain ⟨-, kA', comp', g1, g2, g3, g4⟩ := C.2.2.2.2.2.2.2.2.1.2 2 _ rfl
  have hcA : cA = G.2.2.2.2.2 := Option.some.inj (f1.symm.trans g4)
  subst hcA
  rw [en]
  generalize hH1 : H.push ({ cls := G.2.2.2.2.2, slots := Array.replicate n.toNat .null, vm := .none } : Cell) = H1
  have z1 : H1.size = H.size + 1 := by rw [← hH1, Array.size_push]
  have e1 : H1[H.size]? = some (arrV G.2.2.2.2.2 n.toNat (fun _ => .null)) := by rw [← hH1, Array.getElem?_push_size, ← arrV_new]
  have o1 : ∀ q : Nat, q < H.size → H1[q]? = H[q]? := fun q hq => by rw [← hH1, Array.getElem?_push, if_neg (Nat.ne_of_lt hq)]
  have hs1 : va_S A s.heap H1 locs := ⟨Nat.le_trans hS.1 (by omega), fun x q1 q2 => (o1 x (Nat.lt_of_lt_of_le q1 hS.1)).trans (hS.2.1 x q1 q2), hS.2.2⟩
  have hw1 : aWd G A (hset h H.size (eR n.toNat (fun _ => none))) H1 := w.kept (ho := w.fresh) o1 e1 (hA _ hS.1)
  exact k H.size w.fresh (fun b hb => w.lt hb) p e s m args below meth c A H1 ls locs C hA hw1 hs1 (ho.set trivial) (ok_c trivial (ok_t h1)) h2 hl
end XH
