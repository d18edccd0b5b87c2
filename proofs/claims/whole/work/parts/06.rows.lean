/-! rows over numbers nI k: branches and places as natural numbers -/
theorem gm_up_up (M : gm_M) (k : Nat) (x y : va_E) : gm_up (gm_up M k x) k y = gm_up M k y := by
  funext j
  by_cases h : j = k <;> simp [gm_up, h]
theorem gm_swap {M : gm_M} {a b : Nat} {x y : va_E} (h : a ≠ b) : gm_up (gm_up M a x) b y = gm_up (gm_up M b y) a x := by
  funext j
  by_cases h1 : j = a <;> by_cases h2 : j = b <;> simp_all [gm_up]
theorem in_lift {x : Int32} {g : Nat} (hg : g < 2 ^ 31) (h : ¬ x < 0 ∧ ¬ nI g < x) : ∃ j : Nat, j ≤ g ∧ x = nI j := by
  obtain ⟨j, hj, rfl⟩ := nI_of h.1
  exact ⟨j, Nat.le_of_not_lt (fun q => h.2 (nI_lt q hj)), rfl⟩
theorem nI_nm1 {k : Nat} (h : k < 2 ^ 31) : ¬ nI k = (-1) := fun q => absurd (show nI k < 0 by rw [q]; decide) (nI_pos h)
theorem sw_split (x : Int32) (n : Nat) (hn : 0 < n ∧ n < 2 ^ 31) : ((x.toInt < 0 ∨ ((n : Int) - 1) < x.toInt) ∧ (x < 0 ∨ nI (n - 1) < x)) ∨ ∃ k, k < n ∧ x = nI k := by
  by_cases h : x < 0
  · refine Or.inl ⟨Or.inl ?_, Or.inl h⟩
    have := Int32.lt_iff_toInt_lt.mp h
    simpa using this
  · obtain ⟨k, hk, rfl⟩ := nI_of h
    rcases Nat.lt_or_ge k n with q | q
    · exact Or.inr ⟨k, q, rfl⟩
    · refine Or.inl ⟨Or.inr ?_, Or.inr (nI_lt (by omega) hk)⟩
      rw [nI_toInt hk]
      omega
theorem nbz : ∀ b, b ≤ 1 → narrow .boolean (.int (nI b)) = .int (nI b) ∧ fits .boolean (.int (nI b)) = true := by
  intro b hb
  rcases (show b = 0 ∨ b = 1 by omega) with rfl | rfl <;> exact ⟨rfl, rfl⟩
theorem gm_ne {M : gm_M} {a b : Nat} {x y : va_E} (ha : M a = some x) (hb : M b = some y) (h : x ≠ y) : a ≠ b := fun q => h (Option.some.inj (ha.symm.trans ((congrArg M q).trans hb)))
theorem gm_pass {M : gm_M} {a k : Nat} {x y : va_E} (h : M a = some x) (hn : a ≠ k) : gm_up M k y a = some x := (gm_up_ne M y hn).trans h
theorem nI_eq0 {a : Nat} (ha : a < 2 ^ 31) : nI a = 0 ↔ a = 0 := by rw [← nI_0]; exact nI_eq ha (by decide)
/-- an array of references to the objects at these addresses -/
def oF (a : Nat → Nat) : Nat → Option Nat := fun i => some (a i)
theorem oF_up (a : Nat → Nat) (k v : Nat) : va_up (oF a) k (some v) = oF (va_up a k v) := by
  funext j
  by_cases h : j = k <;> simp [oF, va_up, h]
theorem gm_fix {M : gm_M} {k : Nat} {x : va_E} (h : M k = some x) : gm_up M k x = M := by
  funext j
  by_cases q : j = k
  · subst q; rw [gm_up_self, h]
  · rw [gm_up_ne _ _ q]
/-- an array of ints that are natural numbers -/
def iN (a : Nat → Nat) : Nat → Int32 := fun i => nI (a i)
theorem iN_up (a : Nat → Nat) (k v : Nat) : upd (iN a) k (nI v) = iN (va_up a k v) := by
  funext j
  by_cases h : j = k <;> simp [upd, iN, va_up, h]
theorem nx_and (a b : Nat) : nI a &&& nI b = nI (a &&& b) := by
  unfold nI
  apply Int32.toBitVec_inj.mp
  rw [Int32.toBitVec_and]
  show BitVec.ofNat 32 a &&& BitVec.ofNat 32 b = BitVec.ofNat 32 (a &&& b)
  rw [BitVec.ofNat_and]
def limN (j : Nat) : Nat := [0, 10, 10, 60, 30, 5, 10, 30].getD j 0
theorem limN_ok : ∀ j, j < 8 → lim_f j = nI (limN j) := by decide
theorem limN_lt (j : Nat) : limN j ≤ 60 := by
  rcases Nat.lt_or_ge j 8 with h | h
  · exact (by decide : ∀ j, j < 8 → limN j ≤ 60) j h
  · have e : limN j = 0 := by simp [limN, List.getD, List.getElem?_eq_none (show [0, 10, 10, 60, 30, 5, 10, 30].length ≤ j from h)]
    omega
section NR
variable {p : Program} {l : Launch} {e : Env} {R : Room} {s : State} {m : MethodId} {args : Array Value} {below : List Frame} {meth : Method} {c : Code} {H : Heap} {locs : List Loc} {cells slots : Nat} {Q : State → Prop}
variable {cc : ByteArray} {pc : Nat} {ls : Array Slot} {rest : List Value} {D : va_G} {cl : List vw_C} {A : Nat → Prop} {tys : List (ClassId × FieldType)} {H0 : Heap} {N : Nat} {M : gm_M}
theorem ln_eq {a b : Nat} (hx : p.tables.exec = Jvm.exec) (hb : c.code = cc) {off : Int} {tgt : Nat} (hdg : decode cc pc = .ok (.if_icmp .eq off, 3)) (ht : (pc : Int) + off = (tgt : Int)) (h1 : a < 2 ^ 31) (h2 : b < 2 ^ 31)
    (kt : a = b → W p l e R s m args below meth c H locs cells slots Q (F0 m tgt ls rest)) (kf : ¬ a = b → W p l e R s m args below meth c H locs cells slots Q (F0 m (pc + 3) ls rest)) : W p l e R s m args below meth c H locs cells slots Q (F0 m pc ls (.int (nI b) :: .int (nI a) :: rest)) := lv_icmp_eq hx hb hdg ht (fun q => kt ((nI_eq h1 h2).mp q)) (fun q => kf (fun z => q ((nI_eq h1 h2).mpr z)))
theorem ln_ne {a b : Nat} (hx : p.tables.exec = Jvm.exec) (hb : c.code = cc) {off : Int} {tgt : Nat} (hdg : decode cc pc = .ok (.if_icmp .ne off, 3)) (ht : (pc : Int) + off = (tgt : Int)) (h1 : a < 2 ^ 31) (h2 : b < 2 ^ 31)
    (kt : ¬ a = b → W p l e R s m args below meth c H locs cells slots Q (F0 m tgt ls rest)) (kf : a = b → W p l e R s m args below meth c H locs cells slots Q (F0 m (pc + 3) ls rest)) : W p l e R s m args below meth c H locs cells slots Q (F0 m pc ls (.int (nI b) :: .int (nI a) :: rest)) := lv_icmp_ne hx hb hdg ht (fun q => kt (fun z => q ((nI_eq h1 h2).mpr z))) (fun q => kf ((nI_eq h1 h2).mp q))
theorem ln_lt {a b : Nat} (hx : p.tables.exec = Jvm.exec) (hb : c.code = cc) {off : Int} {tgt : Nat} (hdg : decode cc pc = .ok (.if_icmp .lt off, 3)) (ht : (pc : Int) + off = (tgt : Int)) (h1 : a < 2 ^ 31) (h2 : b < 2 ^ 31)
    (kt : a < b → W p l e R s m args below meth c H locs cells slots Q (F0 m tgt ls rest)) (kf : b ≤ a → W p l e R s m args below meth c H locs cells slots Q (F0 m (pc + 3) ls rest)) : W p l e R s m args below meth c H locs cells slots Q (F0 m pc ls (.int (nI b) :: .int (nI a) :: rest)) := lv_icmp_lt hx hb hdg ht (fun q => kt ((nI_ltI h1 h2).mp q)) (fun q => kf (Nat.le_of_not_lt (fun z => q ((nI_ltI h1 h2).mpr z))))
theorem ln_ge {a b : Nat} (hx : p.tables.exec = Jvm.exec) (hb : c.code = cc) {off : Int} {tgt : Nat} (hdg : decode cc pc = .ok (.if_icmp .ge off, 3)) (ht : (pc : Int) + off = (tgt : Int)) (h1 : a < 2 ^ 31) (h2 : b < 2 ^ 31)
    (kt : b ≤ a → W p l e R s m args below meth c H locs cells slots Q (F0 m tgt ls rest)) (kf : a < b → W p l e R s m args below meth c H locs cells slots Q (F0 m (pc + 3) ls rest)) : W p l e R s m args below meth c H locs cells slots Q (F0 m pc ls (.int (nI b) :: .int (nI a) :: rest)) := lv_icmp_ge hx hb hdg ht (fun q => kt ((nI_leI h2 h1).mp q)) (fun q => kf (Nat.lt_of_not_le (fun z => q ((nI_leI h2 h1).mpr z))))
theorem ln_gt {a b : Nat} (hx : p.tables.exec = Jvm.exec) (hb : c.code = cc) {off : Int} {tgt : Nat} (hdg : decode cc pc = .ok (.if_icmp .gt off, 3)) (ht : (pc : Int) + off = (tgt : Int)) (h1 : a < 2 ^ 31) (h2 : b < 2 ^ 31)
    (kt : b < a → W p l e R s m args below meth c H locs cells slots Q (F0 m tgt ls rest)) (kf : a ≤ b → W p l e R s m args below meth c H locs cells slots Q (F0 m (pc + 3) ls rest)) : W p l e R s m args below meth c H locs cells slots Q (F0 m pc ls (.int (nI b) :: .int (nI a) :: rest)) := lv_icmp_gt hx hb hdg ht (fun q => kt ((nI_ltI h2 h1).mp q)) (fun q => kf (Nat.le_of_not_lt (fun z => q ((nI_ltI h2 h1).mpr z))))
theorem ln_le {a b : Nat} (hx : p.tables.exec = Jvm.exec) (hb : c.code = cc) {off : Int} {tgt : Nat} (hdg : decode cc pc = .ok (.if_icmp .le off, 3)) (ht : (pc : Int) + off = (tgt : Int)) (h1 : a < 2 ^ 31) (h2 : b < 2 ^ 31)
    (kt : a ≤ b → W p l e R s m args below meth c H locs cells slots Q (F0 m tgt ls rest)) (kf : b < a → W p l e R s m args below meth c H locs cells slots Q (F0 m (pc + 3) ls rest)) : W p l e R s m args below meth c H locs cells slots Q (F0 m pc ls (.int (nI b) :: .int (nI a) :: rest)) := lv_icmp_le hx hb hdg ht (fun q => kt ((nI_leI h1 h2).mp q)) (fun q => kf (Nat.lt_of_not_le (fun z => q ((nI_leI h1 h2).mpr z))))
theorem lz_eq {a : Nat} (hx : p.tables.exec = Jvm.exec) (hb : c.code = cc) {off : Int} {tgt : Nat} (hdg : decode cc pc = .ok (.ifCond .eq off, 3)) (ht : (pc : Int) + off = (tgt : Int)) (h1 : a < 2 ^ 31)
    (kt : a = 0 → W p l e R s m args below meth c H locs cells slots Q (F0 m tgt ls rest)) (kf : ¬ a = 0 → W p l e R s m args below meth c H locs cells slots Q (F0 m (pc + 3) ls rest)) : W p l e R s m args below meth c H locs cells slots Q (F0 m pc ls (.int (nI a) :: rest)) := lv_if_eq hx hb hdg ht (fun q => kt ((nI_eq0 h1).mp q)) (fun q => kf (fun z => q ((nI_eq0 h1).mpr z)))
theorem lz_ne {a : Nat} (hx : p.tables.exec = Jvm.exec) (hb : c.code = cc) {off : Int} {tgt : Nat} (hdg : decode cc pc = .ok (.ifCond .ne off, 3)) (ht : (pc : Int) + off = (tgt : Int)) (h1 : a < 2 ^ 31)
    (kt : ¬ a = 0 → W p l e R s m args below meth c H locs cells slots Q (F0 m tgt ls rest)) (kf : a = 0 → W p l e R s m args below meth c H locs cells slots Q (F0 m (pc + 3) ls rest)) : W p l e R s m args below meth c H locs cells slots Q (F0 m pc ls (.int (nI a) :: rest)) := lv_if_ne hx hb hdg ht (fun q => kt (fun z => q ((nI_eq0 h1).mpr z))) (fun q => kf ((nI_eq0 h1).mp q))
theorem lz_lt {a : Nat} (hx : p.tables.exec = Jvm.exec) (hb : c.code = cc) {off : Int} (hdg : decode cc pc = .ok (.ifCond .lt off, 3)) {tgt : Nat} (ht : (pc : Int) + off = (tgt : Int)) (h1 : a < 2 ^ 31)
    (kf : W p l e R s m args below meth c H locs cells slots Q (F0 m (pc + 3) ls rest)) : W p l e R s m args below meth c H locs cells slots Q (F0 m pc ls (.int (nI a) :: rest)) := lv_if_lt hx hb hdg ht (fun q => absurd q (nI_pos h1)) (fun _ => kf)
theorem lz_ge {a : Nat} (hx : p.tables.exec = Jvm.exec) (hb : c.code = cc) {off : Int} {tgt : Nat} (hdg : decode cc pc = .ok (.ifCond .ge off, 3)) (ht : (pc : Int) + off = (tgt : Int)) (h1 : a < 2 ^ 31)
    (kt : W p l e R s m args below meth c H locs cells slots Q (F0 m tgt ls rest)) : W p l e R s m args below meth c H locs cells slots Q (F0 m pc ls (.int (nI a) :: rest)) := lv_if_ge hx hb hdg ht (fun _ => kt) (fun q => absurd (nI_pos' h1) q)
theorem lz_gt {a : Nat} (hx : p.tables.exec = Jvm.exec) (hb : c.code = cc) {off : Int} {tgt : Nat} (hdg : decode cc pc = .ok (.ifCond .gt off, 3)) (ht : (pc : Int) + off = (tgt : Int)) (h1 : a < 2 ^ 31)
    (kt : 0 < a → W p l e R s m args below meth c H locs cells slots Q (F0 m tgt ls rest)) (kf : a = 0 → W p l e R s m args below meth c H locs cells slots Q (F0 m (pc + 3) ls rest)) : W p l e R s m args below meth c H locs cells slots Q (F0 m pc ls (.int (nI a) :: rest)) := lv_if_gt hx hb hdg ht (fun q => kt (Nat.pos_of_ne_zero (fun z => by subst z; exact absurd q (by decide)))) (fun q => kf (by rcases Nat.eq_zero_or_pos a with z | z; exact z; exact absurd (by rw [← nI_0]; exact nI_lt z h1) q))
theorem lz_le {a : Nat} (hx : p.tables.exec = Jvm.exec) (hb : c.code = cc) {off : Int} {tgt : Nat} (hdg : decode cc pc = .ok (.ifCond .le off, 3)) (ht : (pc : Int) + off = (tgt : Int)) (h1 : a < 2 ^ 31)
    (kt : a = 0 → W p l e R s m args below meth c H locs cells slots Q (F0 m tgt ls rest)) (kf : 0 < a → W p l e R s m args below meth c H locs cells slots Q (F0 m (pc + 3) ls rest)) : W p l e R s m args below meth c H locs cells slots Q (F0 m pc ls (.int (nI a) :: rest)) := lv_if_le hx hb hdg ht (fun q => kt (by rcases Nat.eq_zero_or_pos a with z | z; exact z; exact absurd q (nI_nle z h1))) (fun q => kf (Nat.pos_of_ne_zero (fun z => by subst z; exact q (by decide))))
theorem gn_iald (hexec : p.tables.exec = Jvm.exec) (hb : c.code = cc) (hK : va_K D cl tys s) (hP : gm_P D cl A N M H) (t0 : Nat) {x : Nat} {cA : ClassId} {n : Nat} {f : Nat → Int32} (ha : M x = some (.inl (cA, n, .inl f))) (ht : tys[t0]? = some (cA, .int)) {i : Nat} (hi : i < n) (hn : n < 2 ^ 31) (hdg : decode cc pc = .ok (.iaload, 1))
    (kk : W p l e R s m args below meth c H locs cells slots Q (F0 m (pc + 1) ls (.int (f i) :: rest))) : W p l e R s m args below meth c H locs cells slots Q (F0 m pc ls (.int (nI i) :: .ref x :: rest)) :=
  gm_iald hexec hb hK hP t0 ha ht (vp_in_nI hi hn) hdg (by rw [nI_clamp (Nat.lt_trans hi hn)]; exact kk)
theorem gn_cald (hexec : p.tables.exec = Jvm.exec) (hb : c.code = cc) (hK : va_K D cl tys s) (hP : gm_P D cl A N M H) (t0 : Nat) {x : Nat} {cA : ClassId} {n : Nat} {f : Nat → Int32} (ha : M x = some (.inl (cA, n, .inl f))) (ht : tys[t0]? = some (cA, .char)) {i : Nat} (hi : i < n) (hn : n < 2 ^ 31) (hdg : decode cc pc = .ok (.caload, 1))
    (kk : W p l e R s m args below meth c H locs cells slots Q (F0 m (pc + 1) ls (.int (f i) :: rest))) : W p l e R s m args below meth c H locs cells slots Q (F0 m pc ls (.int (nI i) :: .ref x :: rest)) :=
  gm_cald hexec hb hK hP t0 ha ht (vp_in_nI hi hn) hdg (by rw [nI_clamp (Nat.lt_trans hi hn)]; exact kk)
theorem gn_aald (hexec : p.tables.exec = Jvm.exec) (hb : c.code = cc) (hK : va_K D cl tys s) (hP : gm_P D cl A N M H) (t0 : Nat) {x : Nat} {cA : ClassId} {C : String} {n : Nat} {f : Nat → Option Nat} (ha : M x = some (.inl (cA, n, .inr (.inr (.inr (.inr f)))))) (ht : tys[t0]? = some (cA, .object C)) {i : Nat} (hi : i < n) (hn : n < 2 ^ 31) {y : Nat} (hy : f i = some y) (hdg : decode cc pc = .ok (.aaload, 1))
    (kk : W p l e R s m args below meth c H locs cells slots Q (F0 m (pc + 1) ls (.ref y :: rest))) : W p l e R s m args below meth c H locs cells slots Q (F0 m pc ls (.int (nI i) :: .ref x :: rest)) :=
  gm_aald hexec hb hK hP t0 ha ht (vp_in_nI hi hn) (by rw [nI_clamp (Nat.lt_trans hi hn)]; exact hy) hdg kk
theorem gn_iast (hexec : p.tables.exec = Jvm.exec) (hb : c.code = cc) (hK : va_K D cl tys s) (hP : gm_P D cl A N M H) (hS : va_S A H0 H locs) (t0 : Nat) {x : Nat} {cA : ClassId} {n : Nat} {f : Nat → Int32} (ha : M x = some (.inl (cA, n, .inl f))) (ht : tys[t0]? = some (cA, .int)) {i : Nat} {v : Int32} (hi : i < n) (hn : n < 2 ^ 31) (hdg : decode cc pc = .ok (.iastore, 1))
    (kk : ∀ (H1 : Heap) (locs1 : List Loc), gm_P D cl A N (gm_up M x (.inl (cA, n, .inl (upd f i v)))) H1 → va_S A H0 H1 locs1 → W p l e R s m args below meth c H1 locs1 cells slots Q (F0 m (pc + 1) ls rest)) : W p l e R s m args below meth c H locs cells slots Q (F0 m pc ls (.int v :: .int (nI i) :: .ref x :: rest)) :=
  gm_iast hexec hb hK hP hS t0 ha ht (vp_in_nI hi hn) hdg (by rw [nI_clamp (Nat.lt_trans hi hn)]; exact kk)
theorem gn_cast (hexec : p.tables.exec = Jvm.exec) (hb : c.code = cc) (hK : va_K D cl tys s) (hP : gm_P D cl A N M H) (hS : va_S A H0 H locs) (t0 : Nat) {x : Nat} {cA : ClassId} {n : Nat} {f : Nat → Int32} (ha : M x = some (.inl (cA, n, .inl f))) (ht : tys[t0]? = some (cA, .char)) {i : Nat} {v : Int32} (hi : i < n) (hn : n < 2 ^ 31) (hv : vp_nar .char v = v) (hdg : decode cc pc = .ok (.castore, 1))
    (kk : ∀ (H1 : Heap) (locs1 : List Loc), gm_P D cl A N (gm_up M x (.inl (cA, n, .inl (upd f i v)))) H1 → va_S A H0 H1 locs1 → W p l e R s m args below meth c H1 locs1 cells slots Q (F0 m (pc + 1) ls rest)) : W p l e R s m args below meth c H locs cells slots Q (F0 m pc ls (.int v :: .int (nI i) :: .ref x :: rest)) :=
  gm_cast hexec hb hK hP hS t0 ha ht (vp_in_nI hi hn) hdg (by rw [nI_clamp (Nat.lt_trans hi hn), hv]; exact kk)
theorem gn_aast (hexec : p.tables.exec = Jvm.exec) (hb : c.code = cc) (hK : va_K D cl tys s) (hP : gm_P D cl A N M H) (hS : va_S A H0 H locs) (t0 ci : Nat) {x : Nat} {cA : ClassId} {r : vw_C} {n v : Nat} {vs : List Value} {f : Nat → Option Nat} (ha : M x = some (.inl (cA, n, .inr (.inr (.inr (.inr f)))))) (ht : tys[t0]? = some (cA, .object r.1)) (hv : M v = some (.inr (ci, vs))) (hc : cl[ci]? = some r) {i : Nat} (hi : i < n) (hn : n < 2 ^ 31) (hdg : decode cc pc = .ok (.aastore, 1))
    (kk : ∀ (H1 : Heap) (locs1 : List Loc), gm_P D cl A N (gm_up M x (.inl (cA, n, .inr (.inr (.inr (.inr (va_up f i (some v)))))))) H1 → va_S A H0 H1 locs1 → W p l e R s m args below meth c H1 locs1 cells slots Q (F0 m (pc + 1) ls rest)) : W p l e R s m args below meth c H locs cells slots Q (F0 m pc ls (.ref v :: .int (nI i) :: .ref x :: rest)) :=
  gm_aast hexec hb hK hP hS t0 ci ha ht hv hc (vp_in_nI hi hn) hdg (by rw [nI_clamp (Nat.lt_trans hi hn)]; exact kk)
theorem gz_iald (hexec : p.tables.exec = Jvm.exec) (hb : c.code = cc) (hK : va_K D cl tys s) (hP : gm_P D cl A N M H) (t0 : Nat) {x : Nat} {cA : ClassId} {n : Nat} {f : Nat → Nat} (ha : M x = some (.inl (cA, n, .inl (iN f)))) (ht : tys[t0]? = some (cA, .int)) {i : Nat} (hi : i < n) (hn : n < 2 ^ 31) (hdg : decode cc pc = .ok (.iaload, 1))
    (kk : W p l e R s m args below meth c H locs cells slots Q (F0 m (pc + 1) ls (.int (nI (f i)) :: rest))) : W p l e R s m args below meth c H locs cells slots Q (F0 m pc ls (.int (nI i) :: .ref x :: rest)) := gn_iald hexec hb hK hP t0 ha ht hi hn hdg kk
theorem gz_iast (hexec : p.tables.exec = Jvm.exec) (hb : c.code = cc) (hK : va_K D cl tys s) (hP : gm_P D cl A N M H) (hS : va_S A H0 H locs) (t0 : Nat) {x : Nat} {cA : ClassId} {n : Nat} {f : Nat → Nat} (ha : M x = some (.inl (cA, n, .inl (iN f)))) (ht : tys[t0]? = some (cA, .int)) {i v : Nat} (hi : i < n) (hn : n < 2 ^ 31) (hdg : decode cc pc = .ok (.iastore, 1))
    (kk : ∀ (H1 : Heap) (locs1 : List Loc), gm_P D cl A N (gm_up M x (.inl (cA, n, .inl (iN (va_up f i v))))) H1 → va_S A H0 H1 locs1 → W p l e R s m args below meth c H1 locs1 cells slots Q (F0 m (pc + 1) ls rest)) : W p l e R s m args below meth c H locs cells slots Q (F0 m pc ls (.int (nI v) :: .int (nI i) :: .ref x :: rest)) :=
  gn_iast hexec hb hK hP hS t0 ha ht hi hn hdg (by rw [iN_up]; exact kk)
theorem gz_aast (hexec : p.tables.exec = Jvm.exec) (hb : c.code = cc) (hK : va_K D cl tys s) (hP : gm_P D cl A N M H) (hS : va_S A H0 H locs) (t0 ci : Nat) {x : Nat} {cA : ClassId} {r : vw_C} {n v : Nat} {vs : List Value} {f : Nat → Nat} (ha : M x = some (.inl (cA, n, .inr (.inr (.inr (.inr (oF f))))))) (ht : tys[t0]? = some (cA, .object r.1)) (hv : M v = some (.inr (ci, vs))) (hc : cl[ci]? = some r) {i : Nat} (hi : i < n) (hn : n < 2 ^ 31) (hdg : decode cc pc = .ok (.aastore, 1))
    (kk : ∀ (H1 : Heap) (locs1 : List Loc), gm_P D cl A N (gm_up M x (.inl (cA, n, .inr (.inr (.inr (.inr (oF (va_up f i v)))))))) H1 → va_S A H0 H1 locs1 → W p l e R s m args below meth c H1 locs1 cells slots Q (F0 m (pc + 1) ls rest)) : W p l e R s m args below meth c H locs cells slots Q (F0 m pc ls (.ref v :: .int (nI i) :: .ref x :: rest)) :=
  gn_aast hexec hb hK hP hS t0 ci ha ht hv hc hi hn hdg (by rw [oF_up]; exact kk)
theorem gn_min {own : String} {index : Nat} (hx : p.tables.exec = Jvm.exec) (hb : c.code = cc) (hml : c.maxLocals = ls.size) (hown : s.vm.findClass own = some m.cls) (htl : ∀ w ∈ LW, w.before args s = true) (k1 : Cond.methodLink own index y_Ma_min ∈ LW) (k2 : Cond.static y_Ma_min ∈ LW) (k3 : Cond.initialized "java/lang/Math" ∈ LW) (k4 : Cond.code y_Ma_min b_Ma_min 2 (some .int) ∈ LW)
    (hframes : 1 ≤ R.frames) (hlocals : (rest.map fun v => v.category).sum + 13 ≤ R.locals) (hc : cells ≤ R.cells) (hs : slots ≤ R.slots) {a b : Nat} (ha : a < 2 ^ 31) (hb0 : b < 2 ^ 31) (hdg : decode cc pc = .ok (.invokestatic index, 3))
    (kt : a ≤ b → W p l e R s m args below meth c H locs cells slots Q (F0 m (pc + 3) ls (.int (nI a) :: rest))) (kf : b < a → W p l e R s m args below meth c H locs cells slots Q (F0 m (pc + 3) ls (.int (nI b) :: rest))) : W p l e R s m args below meth c H locs cells slots Q (F0 m pc ls (.int (nI b) :: .int (nI a) :: rest)) := by
  refine va_mmin hx hb hml hown (htl _ k1) (htl _ k2) (htl _ k3) (htl _ k4) hframes hlocals hc hs hdg ?_
  by_cases q : b < a
  · rw [if_pos (nI_lt q ha)]; exact kf q
  · rw [if_neg (nI_nlt (by omega) hb0)]; exact kt (by omega)
theorem gn_max {own : String} {index : Nat} (hx : p.tables.exec = Jvm.exec) (hb : c.code = cc) (hml : c.maxLocals = ls.size) (hown : s.vm.findClass own = some m.cls) (htl : ∀ w ∈ LW, w.before args s = true) (k1 : Cond.methodLink own index y_Ma_max ∈ LW) (k2 : Cond.static y_Ma_max ∈ LW) (k3 : Cond.initialized "java/lang/Math" ∈ LW) (k4 : Cond.code y_Ma_max b_Ma_max 2 (some .int) ∈ LW)
    (hframes : 1 ≤ R.frames) (hlocals : (rest.map fun v => v.category).sum + 13 ≤ R.locals) (hc : cells ≤ R.cells) (hs : slots ≤ R.slots) {a b : Nat} (ha : a < 2 ^ 31) (hb0 : b < 2 ^ 31) (hdg : decode cc pc = .ok (.invokestatic index, 3))
    (kt : b ≤ a → W p l e R s m args below meth c H locs cells slots Q (F0 m (pc + 3) ls (.int (nI a) :: rest))) (kf : a < b → W p l e R s m args below meth c H locs cells slots Q (F0 m (pc + 3) ls (.int (nI b) :: rest))) : W p l e R s m args below meth c H locs cells slots Q (F0 m pc ls (.int (nI b) :: .int (nI a) :: rest)) := by
  refine va_mmax hx hb hml hown (htl _ k1) (htl _ k2) (htl _ k3) (htl _ k4) hframes hlocals hc hs hdg ?_
  by_cases q : a < b
  · rw [if_pos (nI_lt q hb0)]; exact kf q
  · rw [if_neg (nI_nlt (by omega) ha)]; exact kt (by omega)
end NR
