section C44
variable {l : Launch} {D : va_G} {ca : Nat → ClassId} {A : Nat → Prop} {G : gG} {N : Nat} {M : gm_M}

/-! what stays as it is -/
theorem triC_sub {ne : Nat} {pp po pi : Nat → Nat} {nf : Nat} {fl : Nat → Nat → Nat} {ne1 : Nat} {pp1 po1 pi1 : Nat → Nat} {n1 : Nat} {fl1 : Nat → Nat → Nat} (h : triC ne pp po pi nf fl) (he : ∀ i, i < ne1 → ∃ j, j < ne ∧ pp1 i = pp j ∧ po1 i = po j ∧ pi1 i = pi j) (hf : ∀ i, i < n1 → ∃ j, j < nf ∧ fl1 i 0 = fl j 0 ∧ fl1 i 1 = fl j 1 ∧ fl1 i 3 = fl j 3) : triC ne1 pp1 po1 pi1 n1 fl1 := by
  refine ⟨fun i j hi hj q => ?_, fun i j hi hj q => ?_, fun i j hi hj q => ?_⟩
  · obtain ⟨a, a1, a2, a3, a4⟩ := he i hi
    obtain ⟨b, b1, b2, b3, b4⟩ := he j hj
    have := h.1 a b a1 b1 (by omega)
    omega
  · obtain ⟨a, a1, a2, a3, a4⟩ := he i hi
    obtain ⟨b, b1, b2, b3, b4⟩ := hf j hj
    have := h.2.1 a b a1 b1 (by omega)
    omega
  · obtain ⟨a, a1, a2, a3, a4⟩ := hf i hi
    obtain ⟨b, b1, b2, b3, b4⟩ := hf j hj
    have := h.2.2 a b a1 b1 (by omega)
    omega
/-- what each flow keeps to -/
def flI (nf : Nat) (fl : Nat → Nat → Nat) (tm : Nat) : Prop := ∀ i, i < nf → fl i 5 ≤ tm ∧ 1 ≤ fl i 4 ∧ (fl i 0 = 0 → fl i 4 ≤ 5) ∧ fl i 3 ≤ 111
theorem flI_sub {nf n1 tm : Nat} {fl fl1 : Nat → Nat → Nat} (h : flI nf fl tm) (hf : ∀ i, i < n1 → ∃ j, j < nf ∧ fl1 i = fl j) : flI n1 fl1 tm := by
  intro i hi
  obtain ⟨j, h1, h2⟩ := hf i hi
  rw [h2]; exact h j h1
theorem flI_tm {nf tm tm1 : Nat} {fl : Nat → Nat → Nat} (h : flI nf fl tm) (ht : tm ≤ tm1) : flI nf fl tm1 := fun i hi => ⟨Nat.le_trans (h i hi).1 ht, (h i hi).2⟩
theorem rows_sub {nf n1 : Nat} {fl fl1 : Nat → Nat → Nat} (h : ∀ i, i < n1 → ∃ j, j < nf ∧ fl1 i = fl j) : ∀ i, i < n1 → ∃ j, j < nf ∧ fl1 i 0 = fl j 0 ∧ fl1 i 1 = fl j 1 ∧ fl1 i 3 = fl j 3 := fun i hi => by
  obtain ⟨j, h1, h2⟩ := h i hi
  exact ⟨j, h1, by rw [h2], by rw [h2], by rw [h2]⟩
theorem sweep_sub (P : (Nat → Nat) → Bool) : ∀ (jd : Nat) (fl : Nat → Nat → Nat) (n : Nat), jd ≤ n → ∀ i, i < (sweep P jd fl n).2 → ∃ j, j < n ∧ (sweep P jd fl n).1 i = fl j := by
  intro jd
  induction jd with
  | zero => intro fl n _ i hi; exact ⟨i, hi, rfl⟩
  | succ jd ih =>
    intro fl n hn i hi
    cases q : P (fl jd) with
    | true =>
      rw [sweep_t q] at hi ⊢
      obtain ⟨j, h1, h2⟩ := ih (rot fl jd n) (n - 1) (by omega) i hi
      exact ⟨rotx jd n j, rotx_lt2 (by omega) (by omega), by rw [h2, rot_x]⟩
    | false =>
      rw [sweep_f q] at hi ⊢
      exact ih fl n (by omega) i hi
theorem sweep_rows {P : (Nat → Nat) → Bool} {fl fl1 : Nat → Nat → Nat} {nf n1 : Nat} (h : sweep P nf fl nf = (fl1, n1)) : ∀ i, i < n1 → ∃ j, j < nf ∧ fl1 i = fl j := by
  have := sweep_sub P nf fl nf (Nat.le_refl _)
  rw [h] at this
  exact this
theorem stA_le {pr op cl st b f st1 : Nat} (h0 : pr = 0) (hs : st ≤ 5) (h : stA pr op cl st b f = some st1) : st1 ≤ 5 := by
  unfold stA at h
  rw [if_neg (by omega)] at h
  repeat' split at h
  all_goals (cases h <;> omega)
theorem flS_rows {fl fl1 : Nat → Nat → Nat} {nf k b f tm n1 : Nat} (h : flS fl nf k b f tm = some (fl1, n1)) (hk : k < nf) (hI : flI nf fl tm) : (∀ i, i < n1 → ∃ j, j < nf ∧ fl1 i 0 = fl j 0 ∧ fl1 i 1 = fl j 1 ∧ fl1 i 3 = fl j 3) ∧ flI n1 fl1 tm := by
  cases e : stA (fl k 0) (fl k 6) (fl k 7) (fl k 4) b f with
  | none => rw [flS_0 e] at h; cases h
  | some st =>
    by_cases z : st = 0
    · subst z
      rw [flS_r e] at h
      cases h
      have hr : ∀ i, i < nf - 1 → ∃ j, j < nf ∧ rot (va_up fl k (frow (fl k) 0 tm (fl k 7))) k nf i = fl j := by
        intro i hi
        have hx : rotx k nf i ≠ k ∧ rotx k nf i < nf := by unfold rotx; split <;> (try split) <;> omega
        rw [rot_x]
        exact ⟨rotx k nf i, hx.2, va_up_ne _ _ hx.1⟩
      exact ⟨rows_sub hr, flI_sub hI hr⟩
    · rw [flS_u e z rfl] at h
      cases h
      refine ⟨fun i hi => ⟨i, hi, ?_⟩, fun i hi => ?_⟩
      · by_cases q : i = k
        · subst q; rw [va_up_self]; exact ⟨rfl, rfl, rfl⟩
        · rw [va_up_ne _ _ q]; exact ⟨rfl, rfl, rfl⟩
      · by_cases q : i = k
        · subst q
          rw [va_up_self]
          have hi2 := hI i hi
          show tm ≤ tm ∧ 1 ≤ st ∧ (fl i 0 = 0 → st ≤ 5) ∧ fl i 3 ≤ 111
          exact ⟨Nat.le_refl _, by omega, fun w => stA_le w (hi2.2.2.1 w) e, hi2.2.2.2⟩
        · rw [va_up_ne _ _ q]; exact hI i hi
theorem newF_0 {fl : Nat → Nat → Nat} {nf pr ins out pub op tm : Nat} : newF fl nf pr ins out pub op tm nf 0 = pr ∧ newF fl nf pr ins out pub op tm nf 1 = ins ∧ newF fl nf pr ins out pub op tm nf 3 = pub ∧ newF fl nf pr ins out pub op tm nf 4 = (if pr = 0 then 1 else 6) ∧ newF fl nf pr ins out pub op tm nf 5 = tm := by
  unfold newF; rw [va_up_self]; exact ⟨rfl, rfl, rfl, rfl, rfl⟩
theorem triC_new {ne : Nat} {pp po pi : Nat → Nat} {nf : Nat} {fl : Nat → Nat → Nat} {pr ins out pub op tm : Nat} (h : triC ne pp po pi nf fl) (h1 : ∀ i, i < ne → pp i = pr → (pi i = ins ↔ po i = pub)) (h2 : ∀ j, j < nf → fl j 0 = pr → (fl j 1 = ins ↔ fl j 3 = pub)) : triC ne pp po pi (nf + 1) (newF fl nf pr ins out pub op tm) := by
  obtain ⟨e0, e1, e3, -⟩ := @newF_0 fl nf pr ins out pub op tm
  have en : ∀ i q, i < nf → newF fl nf pr ins out pub op tm i q = fl i q := fun i q hi => by rw [newF_ne (by omega)]
  refine ⟨h.1, fun i j hi hj q => ?_, fun i j hi hj q => ?_⟩
  · by_cases z : j = nf
    · rw [z, e1, e3]; rw [z, e0] at q; exact h1 i hi q
    · rw [en j _ (by omega)] at q; rw [en j _ (by omega), en j _ (by omega)]; exact h.2.1 i j hi (by omega) q
  · by_cases y : i = nf
    · by_cases z : j = nf
      · rw [y, z]; exact ⟨fun _ => rfl, fun _ => rfl⟩
      · rw [y, e0, en j _ (by omega)] at q
        have := h2 j (by omega) q.symm
        rw [y, e1, e3, en j _ (by omega), en j _ (by omega)]
        exact ⟨fun w => (this.mp w.symm).symm, fun w => (this.mpr w.symm).symm⟩
    · by_cases z : j = nf
      · rw [z, e0, en i _ (by omega)] at q
        rw [z, e1, e3, en i _ (by omega), en i _ (by omega)]; exact h2 i (by omega) q
      · rw [en i _ (by omega), en j _ (by omega)] at q
        rw [en i _ (by omega), en j _ (by omega), en i _ (by omega), en j _ (by omega)]; exact h.2.2 i j (by omega) (by omega) q
theorem flI_new {fl : Nat → Nat → Nat} {nf pr ins out pub op tm : Nat} (h : flI nf fl tm) (hp : pub ≤ 111) : flI (nf + 1) (newF fl nf pr ins out pub op tm) tm := by
  obtain ⟨e0, e1, e3, e4, e5⟩ := @newF_0 fl nf pr ins out pub op tm
  intro i hi
  by_cases z : i = nf
  · rw [z, e0, e3, e4, e5]
    refine ⟨Nat.le_refl _, ?_, fun w => ?_, hp⟩
    · split <;> omega
    · rw [if_pos w]; omega
  · rw [newF_ne z]; exact h i (by omega)
theorem freeF_spec {fl : Nat → Nat → Nat} {nf a p : Nat} (h : freeF fl nf a = some p) : 100 ≤ p ∧ p ≤ 111 ∧ ¬ used fl nf a p := by
  unfold freeF at h
  cases e : ffP (fun q => ¬ used fl nf a (100 + q)) 12 with
  | none => rw [e] at h; cases h
  | some k =>
    rw [e] at h
    obtain ⟨h1, h2⟩ := ffP_sat e
    have hp : 100 + k = p := Option.some.inj h
    exact ⟨by omega, by omega, hp ▸ h2⟩
theorem or_pub {ne : Nat} {pp po pi : Nat → Nat} {nf : Nat} {fl : Nat → Nat → Nat} {pr so p tm : Nat} (hT : triC ne pp po pi nf fl) (h9 : ∀ k, k < ne → po k ≤ 99) (hI : flI nf fl tm) (h : (mpP ne pp po pi nf fl pr so).or (freeF fl nf pr) = some p) : (∀ i, i < ne → pp i = pr → (pi i = so ↔ po i = p)) ∧ (∀ j, j < nf → fl j 0 = pr → (fl j 1 = so ↔ fl j 3 = p)) ∧ p ≤ 111 := by
  cases e : mpP ne pp po pi nf fl pr so with
  | some v =>
    rw [e] at h
    have hv : v = p := Option.some.inj h
    rw [hv] at e
    rcases mpP_spec e with ⟨k, k1, k2, k3, k4⟩ | ⟨k, k1, k2, k3, k4⟩
    · refine ⟨fun i hi q => ?_, fun j hj q => ?_, by have := h9 k k1; omega⟩
      · have := hT.1 i k hi k1 (by omega); omega
      · have := hT.2.1 k j k1 hj (by omega); omega
    · refine ⟨fun i hi q => ?_, fun j hj q => ?_, by have := (hI k k1).2.2.2; omega⟩
      · have := hT.2.1 i k hi k1 (by omega); omega
      · have := hT.2.2 j k hj k1 (by omega); omega
  | none =>
    rw [e] at h
    have hf := freeF_spec (show freeF fl nf pr = some p from h)
    have hno := mpP_no e
    exact ⟨fun i hi q => ⟨fun w => absurd (Or.inl ⟨i, hi, q, w⟩) hno, fun w => by have := h9 i hi; omega⟩, fun j hj q => ⟨fun w => absurd (Or.inr ⟨j, hj, q, w⟩) hno, fun w => absurd ⟨j, hj, q, w⟩ hf.2.2⟩, hf.2.1⟩
theorem in_pub {ne : Nat} {pp po pi : Nat → Nat} {nf : Nat} {fl : Nat → Nat → Nat} {pr b v tm : Nat} (hT : triC ne pp po pi nf fl) (h9 : ∀ k, k < ne → po k ≤ 99) (hI : flI nf fl tm) (h : mpE ne pp po pi nf fl pr b = some v) : (∀ i, i < ne → pp i = pr → (pi i = v ↔ po i = b)) ∧ (∀ j, j < nf → fl j 0 = pr → (fl j 1 = v ↔ fl j 3 = b)) ∧ b ≤ 111 := by
  rcases mpE_spec h with ⟨k, k1, k2, k3, k4⟩ | ⟨k, k1, k2, k3, k4⟩
  · refine ⟨fun i hi q => ?_, fun j hj q => ?_, by have := h9 k k1; omega⟩
    · have := hT.1 i k hi k1 (by omega); omega
    · have := hT.2.1 k j k1 hj (by omega); omega
  · refine ⟨fun i hi q => ?_, fun j hj q => ?_, by have := (hI k k1).2.2.2; omega⟩
    · have := hT.2.1 i k hi k1 (by omega); omega
    · have := hT.2.2 j k hj k1 (by omega); omega
theorem triC_exp {ne : Nat} {pp po pi : Nat → Nat} {nf : Nat} {fl : Nat → Nat → Nat} {a b c : Nat} (h : triC ne pp po pi nf fl) (hno : ¬ (hasP ne pp po nf fl a b ∨ hasI ne pp pi nf fl a c)) : triC (ne + 1) (va_up pp ne a) (va_up po ne b) (va_up pi ne c) nf fl := by
  have h1 : ∀ i, i < ne → pp i = a → ¬ po i = b ∧ ¬ pi i = c := fun i hi q => ⟨fun w => hno (Or.inl (Or.inl ⟨i, hi, q, w⟩)), fun w => hno (Or.inr (Or.inl ⟨i, hi, q, w⟩))⟩
  have h2 : ∀ i, i < nf → fl i 0 = a → ¬ fl i 3 = b ∧ ¬ fl i 1 = c := fun i hi q => ⟨fun w => hno (Or.inl (Or.inr ⟨i, hi, q, w⟩)), fun w => hno (Or.inr (Or.inr ⟨i, hi, q, w⟩))⟩
  refine ⟨fun i j hi hj q => ?_, fun i j hi hj q => ?_, h.2.2⟩
  · by_cases y : i = ne
    · by_cases z : j = ne
      · rw [y, z]; exact ⟨fun _ => rfl, fun _ => rfl⟩
      · rw [y] at q ⊢
        simp only [va_up_self, va_up_ne _ _ z] at q ⊢
        have := h1 j (by omega) q.symm; omega
    · by_cases z : j = ne
      · rw [z] at q ⊢
        simp only [va_up_self, va_up_ne _ _ y] at q ⊢
        have := h1 i (by omega) q; omega
      · simp only [va_up_ne _ _ y, va_up_ne _ _ z] at q ⊢
        exact h.1 i j (by omega) (by omega) q
  · by_cases y : i = ne
    · rw [y] at q ⊢
      simp only [va_up_self] at q ⊢
      have := h2 j hj q.symm; omega
    · simp only [va_up_ne _ _ y] at q ⊢
      exact h.2.1 i j (by omega) hj q
theorem outF_inv {ne : Nat} {pp po pi : Nat → Nat} {nr : Nat} {ru lw hw : Nat → Nat → Nat} {nf : Nat} {fl : Nat → Nat → Nat} {em : Nat → Nat} {cn cs so ta tm pr0 f0 : Nat} {r0 : Int32} {fl1 : Nat → Nat → Nat} {n1 : Nat} {em1 : Nat → Nat} {cs1 : Nat} (h : outF ne pp po pi nr ru lw hw nf fl em cn cs so ta tm pr0 f0 = (r0, fl1, n1, em1, cs1)) (hT : triC ne pp po pi nf fl) (hI : flI nf fl tm) (h9 : ∀ k, k < ne → po k ≤ 99) : triC ne pp po pi n1 fl1 ∧ flI n1 fl1 tm := by
  unfold outF at h
  split at h
  · cases h; exact ⟨hT, hI⟩
  · cases e : ffP (fun k => fl k 0 = pr0 ∧ fl k 1 = so ∧ fl k 2 = ta) nf with
    | some k =>
      rw [e] at h
      simp only at h
      cases e2 : flS fl nf k 1 f0 tm with
      | none => rw [e2] at h; cases h; exact ⟨hT, hI⟩
      | some y =>
        obtain ⟨y1, y2⟩ := y
        rw [e2] at h
        cases h
        have hr := flS_rows e2 (ffP_sat e).1 hI
        exact ⟨triC_sub hT (fun i hi => ⟨i, hi, rfl, rfl, rfl⟩) hr.1, hr.2⟩
    | none =>
      rw [e] at h
      simp only at h
      split at h
      · cases h; exact ⟨hT, hI⟩
      · split at h
        · split at h <;> (cases h; exact ⟨hT, hI⟩)
        · unfold openO at h
          split at h
          · cases h; exact ⟨hT, hI⟩
          · split at h
            · cases h; exact ⟨hT, hI⟩
            · cases e3 : (mpP ne pp po pi nf fl pr0 so).or (freeF fl nf pr0) with
              | none => rw [e3] at h; cases h; exact ⟨hT, hI⟩
              | some p =>
                rw [e3] at h
                cases h
                have hp := or_pub hT h9 hI e3
                exact ⟨triC_new hT hp.1 hp.2.1, flI_new hI hp.2.2⟩
theorem inF_inv {ne : Nat} {pp po pi : Nat → Nat} {nr : Nat} {ru lw hw : Nat → Nat → Nat} {nf : Nat} {fl : Nat → Nat → Nat} {em : Nat → Nat} {cn cs so ta tm pr0 f0 : Nat} {r0 : Int32} {fl1 : Nat → Nat → Nat} {n1 : Nat} {em1 : Nat → Nat} {cs1 : Nat} (h : inF ne pp po pi nr ru lw hw nf fl em cn cs so ta tm pr0 f0 = (r0, fl1, n1, em1, cs1)) (hT : triC ne pp po pi nf fl) (hI : flI nf fl tm) (h9 : ∀ k, k < ne → po k ≤ 99) : triC ne pp po pi n1 fl1 ∧ flI n1 fl1 tm := by
  unfold inF at h
  split at h
  · cases h; exact ⟨hT, hI⟩
  · cases e0 : mpE ne pp po pi nf fl pr0 (ta % 256) with
    | none => rw [e0] at h; cases h; exact ⟨hT, hI⟩
    | some v =>
      rw [e0] at h
      simp only at h
      cases e : ffP (fun k => fl k 0 = pr0 ∧ fl k 1 = v ∧ fl k 2 = so) nf with
      | some k =>
        rw [e] at h
        simp only at h
        cases e2 : flS fl nf k 0 f0 tm with
        | none => rw [e2] at h; cases h; exact ⟨hT, hI⟩
        | some y =>
          obtain ⟨y1, y2⟩ := y
          rw [e2] at h
          cases h
          have hr := flS_rows e2 (ffP_sat e).1 hI
          exact ⟨triC_sub hT (fun i hi => ⟨i, hi, rfl, rfl, rfl⟩) hr.1, hr.2⟩
      | none =>
        rw [e] at h
        simp only at h
        split at h
        · cases h; exact ⟨hT, hI⟩
        · unfold openI at h
          split at h
          · cases h; exact ⟨hT, hI⟩
          · split at h
            · cases h; exact ⟨hT, hI⟩
            · cases h
              have hp := in_pub hT h9 hI e0
              exact ⟨triC_new hT hp.1 hp.2.1, flI_new hI hp.2.2⟩
theorem ex_rm {ne k : Nat} {pp po pi : Nat → Nat} (hk : k < ne) : ∀ i, i < ne - 1 → ∃ j, j < ne ∧ va_up pp k (pp (ne - 1)) i = pp j ∧ va_up po k (po (ne - 1)) i = po j ∧ va_up pi k (pi (ne - 1)) i = pi j := by
  intro i hi
  by_cases z : i = k
  · rw [z, va_up_self, va_up_self, va_up_self]; exact ⟨ne - 1, by omega, rfl, rfl, rfl⟩
  · rw [va_up_ne _ _ z, va_up_ne _ _ z, va_up_ne _ _ z]; exact ⟨i, by omega, rfl, rfl, rfl⟩
theorem va_up_lt {f : Nat → Nat} {k v b : Nat} (h : ∀ q, f q < b) (hv : v < b) : ∀ q, va_up f k v q < b := fun q => by
  by_cases z : q = k
  · subst z; rw [va_up_self]; exact hv
  · rw [va_up_ne _ _ z]; exact h q
/-! the count of mappings -/
theorem cU_0 {fl : Nat → Nat → Nat} : ∀ m, cU fl 0 m = 0 := by
  intro m
  induction m with
  | zero => rfl
  | succ m ih => rw [cU_n (fun ⟨j, h, _⟩ => absurd h (Nat.not_lt_zero _)), ih]
theorem used_s {fl : Nat → Nat → Nat} {n x y : Nat} : used fl (n + 1) x y ↔ used fl n x y ∨ (fl n 0 = x ∧ fl n 3 = y) := by
  constructor
  · intro ⟨j, h1, h2⟩
    by_cases q : j = n
    · subst q; exact Or.inr h2
    · exact Or.inl ⟨j, by omega, h2⟩
  · intro h
    rcases h with ⟨j, h1, h2⟩ | h
    · exact ⟨j, by omega, h2⟩
    · exact ⟨n, by omega, h⟩
theorem cU_a {fl : Nat → Nat → Nat} {n : Nat} (h : ¬ (100 ≤ fl n 3 ∧ ¬ used fl n (fl n 0) (fl n 3))) : ∀ m, cU fl (n + 1) m = cU fl n m := by
  intro m
  induction m with
  | zero => rfl
  | succ m ih =>
    by_cases q : used fl n (m / 12) (100 + m % 12)
    · rw [cU_y q, cU_y (used_s.mpr (Or.inl q)), ih]
    · have q2 : ¬ used fl (n + 1) (m / 12) (100 + m % 12) := fun w => (used_s.mp w).elim q (fun z => h ⟨by omega, by rw [z.1, z.2]; exact q⟩)
      rw [cU_n q, cU_n q2, ih]
theorem cU_b {fl : Nat → Nat → Nat} {n : Nat} (h : 100 ≤ fl n 3 ∧ ¬ used fl n (fl n 0) (fl n 3)) (h3 : fl n 3 ≤ 111) : ∀ m, cU fl (n + 1) m = cU fl n m + (if fl n 0 * 12 + (fl n 3 - 100) < m then 1 else 0) := by
  intro m
  induction m with
  | zero => rw [if_neg (Nat.not_lt_zero _)]; rfl
  | succ m ih =>
    by_cases z : fl n 0 = m / 12 ∧ fl n 3 = 100 + m % 12
    · have q : ¬ used fl n (m / 12) (100 + m % 12) := by rw [← z.1, ← z.2]; exact h.2
      rw [cU_n q, cU_y (used_s.mpr (Or.inr z)), ih, if_neg (by omega), if_pos (by omega)]
    · have e : (if fl n 0 * 12 + (fl n 3 - 100) < m + 1 then 1 else 0) = (if fl n 0 * 12 + (fl n 3 - 100) < m then 1 else 0) := by
        by_cases y : fl n 0 * 12 + (fl n 3 - 100) < m
        · rw [if_pos y, if_pos (by omega)]
        · rw [if_neg y, if_neg (by omega)]
      rw [e]
      by_cases q : used fl n (m / 12) (100 + m % 12)
      · rw [cU_y q, cU_y (used_s.mpr (Or.inl q)), ih]; omega
      · have q2 : ¬ used fl (n + 1) (m / 12) (100 + m % 12) := fun w => (used_s.mp w).elim q z
        rw [cU_n q, cU_n q2, ih]
theorem cU_mM {fl : Nat → Nat → Nat} (hF : okF fl) : ∀ nf, (∀ k, k < nf → fl k 3 ≤ 111) → cU fl nf 36 = mM fl nf := by
  intro nf
  induction nf with
  | zero => intro _; rw [cU_0]; rfl
  | succ n ih =>
    intro h3
    have h0 := ih (fun k hk => h3 k (by omega))
    rw [mM]
    have hp := (hF n).2.1
    have h111 := h3 n (by omega)
    have hfu : fstM fl n = true ↔ ¬ used fl n (fl n 0) (fl n 3) := fstM_iff.trans ⟨fun h ⟨j, h1, h2⟩ => h j h1 h2, fun h j h1 h2 => h ⟨j, h1, h2⟩⟩
    by_cases q : 100 ≤ fl n 3 ∧ ¬ used fl n (fl n 0) (fl n 3)
    · rw [cU_b q h111, if_pos (by omega), if_pos ⟨q.1, hfu.mpr q.2⟩, h0]
    · rw [cU_a q, if_neg (fun w => q ⟨w.1, hfu.mp w.2⟩), h0]; rfl
end C44
