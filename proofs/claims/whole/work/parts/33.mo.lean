section C33
variable {l : Launch} {D : va_G} {ca : Nat → ClassId} {A : Nat → Prop} {G : gG} {N : Nat} {M : gm_M}

abbrev moO (h : Nat) (le bp nr wh tl ne nf na an tm cn cs bd lt nt fx fy : Int32) : va_E := .inr (9, [.ref (h + 1), .int le, .int bp, .ref (h + 2), .ref (h + 3), .ref (h + 4), .ref (h + 5), .ref (h + 6), .int nr, .ref (h + 7), .ref (h + 8), .int wh, .ref (h + 9), .int tl, .ref (h + 10), .ref (h + 11), .ref (h + 12), .ref (h + 13), .int ne, .ref (h + 14), .ref (h + 15), .ref (h + 16), .ref (h + 17), .ref (h + 18), .ref (h + 19), .ref (h + 20), .ref (h + 21), .ref (h + 22), .ref (h + 23), .int nf, .ref (h + 24), .ref (h + 25), .int na, .ref (h + 26), .ref (h + 27), .int an, .int tm, .int cn, .int cs, .int bd, .int lt, .int nt, .int fx, .int fy])
section WC
variable {p : Program} {l : Launch} {e : Env} {R : Room} {s : State} {m : MethodId} {args : Array Value} {below : List Frame} {meth : Method} {c : Code} {H : Heap} {locs : List Loc} {cells slots : Nat} {Q : State → Prop}
theorem w_cut {α : Type} {P : α → Prop} {nL : Nat} {lv : α → List (Nat × Value)} {pc2 : Nat} {st2 : α → List Value} {g : JFrame} (h1 : ∀ (a : α) (ls : Array Slot), lv_has ls nL (lv a) → P a → W p l e R s m args below meth c H locs cells slots Q (F0 m pc2 ls (st2 a))) (h2 : (∀ (a : α) (ls : Array Slot), lv_has ls nL (lv a) → P a → W p l e R s m args below meth c H locs cells slots Q (F0 m pc2 ls (st2 a))) → W p l e R s m args below meth c H locs cells slots Q g) : W p l e R s m args below meth c H locs cells slots Q g := h2 h1
end WC
/-- the numbers of a line -/
def txM (f : Nat → Nat) (t : List Nat) : Prop := ∀ i, i < t.length → f i = t.getD i 0
theorem txM_add {f : Nat → Nat} {t : List Nat} {c : Nat} (h : txM f t) : txM (va_up f t.length c) (t ++ [c]) := by
  intro i hi
  rw [List.length_append, List.length_singleton] at hi
  by_cases q : i = t.length
  · subst q; rw [va_up_self]; simp
  · rw [va_up_ne _ _ q, h i (by omega)]
    simp [List.getD, List.getElem?_append_left (show i < t.length by omega)]
theorem txM_32 {f : Nat → Nat} {t : List Nat} {i : Nat} (h : txM f t) (hi : i < t.length) : f i = t.getD i 32 := by rw [getD_in hi]; exact h i hi
def p10 (k : Nat) : Nat := [1, 10, 100, 1000, 10000].getD k 0
theorem p10_s : ∀ k, k < 4 → p10 (k + 1) = 10 * p10 k := by decide
theorem p10_le : ∀ k, k < 5 → p10 k ≤ 10000 ∧ 1 ≤ p10 k := by decide
def cRf : Nat → Nat → Nat → Nat → Bool
  | 0, _, _, _ => false
  | n + 1, b, w, l => if b ≤ 255 ∧ l ≤ (if b + w - 1 < 255 then b + w - 1 else 255) then true else cRf n (b * 10) (w * 10) l
theorem cRf_t {n b w l : Nat} (h : b ≤ 255 ∧ l ≤ (if b + w - 1 < 255 then b + w - 1 else 255)) : cRf (n + 1) b w l = true := by rw [cRf, if_pos h]
theorem cRf_f {n b w l : Nat} (h : ¬ (b ≤ 255 ∧ l ≤ (if b + w - 1 < 255 then b + w - 1 else 255))) : cRf (n + 1) b w l = cRf n (b * 10) (w * 10) l := by rw [cRf, if_neg h]
/-- the worth of n digits from place a on -/
def wth (t : List Nat) (a : Nat) : Nat → Nat
  | 0 => 0
  | n + 1 => wth t a n * 10 + t.getD (a + n) 32 - 48
def dgt (t : List Nat) (i : Nat) : Prop := 48 ≤ t.getD i 32 ∧ t.getD i 32 ≤ 57
/-- a number of at least ls can begin with what stands from a to b -/
def nmb (t : List Nat) (a b ls : Nat) : Prop := b - a ≤ 3 ∧ (∀ i, a ≤ i → i < b → dgt t i) ∧ cRf (4 - (b - a)) (wth t a (b - a)) 1 ls = true
def nmB (t : List Nat) (a b ls : Nat) : Bool := decide (b - a ≤ 3) && ((List.range (b - a)).all (fun i => decide (48 ≤ t.getD (a + i) 32 ∧ t.getD (a + i) 32 ≤ 57)) && cRf (4 - (b - a)) (wth t a (b - a)) 1 ls)
theorem nmB_iff {t : List Nat} {a b ls : Nat} : nmB t a b ls = true ↔ nmb t a b ls := by
  unfold nmB nmb
  rw [Bool.and_eq_true, Bool.and_eq_true, decide_eq_true_iff, List.all_eq_true]
  constructor
  · intro ⟨h1, h2, h3⟩
    refine ⟨h1, fun i p q => ?_, h3⟩
    have := h2 (i - a) (List.mem_range.mpr (by omega))
    rw [decide_eq_true_iff, show a + (i - a) = i by omega] at this
    exact this
  · intro ⟨h1, h2, h3⟩
    refine ⟨h1, fun i p => ?_, h3⟩
    have := List.mem_range.mp p
    rw [decide_eq_true_iff]
    exact h2 (a + i) (by omega) (by omega)
theorem nmB_f {t : List Nat} {a b ls : Nat} (h : ¬ nmb t a b ls) : nmB t a b ls = false := by
  cases q : nmB t a b ls
  · rfl
  · exact absurd (nmB_iff.mp q) h
theorem cRf_le {l : Nat} : ∀ n b w, cRf n b w l = true → b ≤ 255 := by
  intro n
  induction n with
  | zero => intro b w h; cases h
  | succ n ih =>
    intro b w h
    by_cases q : b ≤ 255
    · exact q
    · rw [cRf_f (fun z => q z.1)] at h
      have := ih _ _ h
      omega
theorem nmb_le {t : List Nat} {a b ls : Nat} (h : nmb t a b ls) : wth t a (b - a) ≤ 255 := cRf_le _ _ _ h.2.2
/-- the place of the first c from a to k, or k -/
noncomputable def fxt (t : List Nat) (c a k : Nat) : Nat := a + (ffP (fun i => t.getD (a + i) 32 = c) (k - a)).getD (k - a)
theorem fx_eq {t : List Nat} {c a k i : Nat} (h1 : a ≤ i) (h2 : i ≤ k) (h3 : ∀ j, a ≤ j → j < i → ¬ t.getD j 32 = c) (h4 : k ≤ i ∨ t.getD i 32 = c) : fxt t c a k = i := by
  unfold fxt
  by_cases q : i = k
  · subst q; rw [ffP_none (fun j hj => h3 _ (by omega) (by omega))]; simp; omega
  · have h5 : t.getD i 32 = c := h4.elim (fun z => absurd z (by omega)) id
    rw [ffP_some (k := i - a) (by omega) (by rw [show a + (i - a) = i by omega]; exact h5) (fun j hj => h3 _ (by omega) (by omega))]; simp; omega
/-- a range from a to b: none: no good line begins so; some none: it can begin one; some (x, y): a range -/
noncomputable def rgF (t : List Nat) (a b : Nat) : Option (Option (Nat × Nat)) := if a = b then some none else if t.getD a 32 = 42 then (if b = a + 1 then some (some (0, 255)) else none) else
  if nmB t a (fxt t 45 a b) 0 = false then none else if fxt t 45 a b = a then none else if fxt t 45 a b = b then some (some (wth t a (fxt t 45 a b - a), wth t a (fxt t 45 a b - a))) else
  if fxt t 45 a b + 1 = b then some none else if nmB t (fxt t 45 a b + 1) b (wth t a (fxt t 45 a b - a)) = false then none else
  if wth t a (fxt t 45 a b - a) ≤ wth t (fxt t 45 a b + 1) (b - (fxt t 45 a b + 1)) then some (some (wth t a (fxt t 45 a b - a), wth t (fxt t 45 a b + 1) (b - (fxt t 45 a b + 1)))) else some none
def ltk (t : List Nat) (k : Nat) : Prop := (0 < k → (t.getD 0 32 = 80 ∨ t.getD 0 32 = 68 ∨ t.getD 0 32 = 83)) ∧ (1 < k → (t.getD 1 32 = 105 ∨ t.getD 1 32 = 111 ∨ t.getD 1 32 = 98)) ∧ (2 < k → (t.getD 2 32 = 116 ∨ t.getD 2 32 = 117 ∨ t.getD 2 32 = 101 ∨ t.getD 2 32 = 42))
def ltB (t : List Nat) (k : Nat) : Bool := decide ((0 < k → (t.getD 0 32 = 80 ∨ t.getD 0 32 = 68 ∨ t.getD 0 32 = 83)) ∧ (1 < k → (t.getD 1 32 = 105 ∨ t.getD 1 32 = 111 ∨ t.getD 1 32 = 98)) ∧ (2 < k → (t.getD 2 32 = 116 ∨ t.getD 2 32 = 117 ∨ t.getD 2 32 = 101 ∨ t.getD 2 32 = 42)))
/-- the first k characters: none: no good line begins so; some none: too short; some ranges: a good line -/
noncomputable def bgF (t : List Nat) (k : Nat) : Option (Option (Nat × Nat × Nat × Nat × Nat × Nat)) := if ltB t k = false then none else if k ≤ 3 then some none else
  match rgF t 3 (fxt t 44 3 k) with
  | none => none
  | some none => if fxt t 44 3 k < k then none else some none
  | some (some q0) => if fxt t 44 3 k = k then some none else
    match rgF t (fxt t 44 3 k + 1) (fxt t 44 (fxt t 44 3 k + 1) k) with
    | none => none
    | some none => if fxt t 44 (fxt t 44 3 k + 1) k < k then none else some none
    | some (some q1) => if fxt t 44 (fxt t 44 3 k + 1) k = k then some none else
      match rgF t (fxt t 44 (fxt t 44 3 k + 1) k + 1) (fxt t 44 (fxt t 44 (fxt t 44 3 k + 1) k + 1) k) with
      | none => none
      | some none => if fxt t 44 (fxt t 44 (fxt t 44 3 k + 1) k + 1) k < k then none else some none
      | some (some q2) => if fxt t 44 (fxt t 44 (fxt t 44 3 k + 1) k + 1) k = k then some (some (q0.1, q1.1, q2.1, q0.2, q1.2, q2.2)) else none
theorem wth_lt {t : List Nat} {a : Nat} : ∀ n, n < 5 → (∀ i, a ≤ i → i < a + n → dgt t i) → wth t a n < p10 n := by
  intro n
  induction n with
  | zero => intro _ _; exact (by decide : (0 : Nat) < p10 0)
  | succ n ih =>
    intro h1 h2
    have := ih (by omega) (fun i a b => h2 i a (by omega))
    have h3 := h2 (a + n) (by omega) (by omega)
    have h4 := p10_s n (by omega)
    unfold dgt at h3
    show wth t a n * 10 + t.getD (a + n) 32 - 48 < _
    omega
theorem tc0_cases : ∀ k, k < 22 → (tc 0 k = 80 ∨ tc 0 k = 68 ∨ tc 0 k = 83 ∨ tc 0 k = 105 ∨ tc 0 k = 111 ∨ tc 0 k = 98 ∨ tc 0 k = 116 ∨ tc 0 k = 117 ∨ tc 0 k = 101 ∨ tc 0 k = 42 ∨ tc 0 k = 45 ∨ tc 0 k = 44 ∨ (48 ≤ tc 0 k ∧ tc 0 k ≤ 57)) ∧ tc 0 k < 128 := by decide
theorem alw_d {y : Int32} (h1 : ¬ y < nI 48) (h2 : y ≤ nI 57) : alw y := by
  obtain ⟨j, hj, rfl⟩ := in_lift (g := 57) (by decide) ⟨fun q => h1 (Int32.lt_trans q (by decide)), Int32.not_lt.mpr h2⟩
  have : 48 ≤ j := Nat.le_of_not_lt (fun q => h1 (nI_lt q (by decide)))
  have key : ∀ j, j < 58 → 48 ≤ j → j = tc 0 (j - 36) := by decide
  refine ⟨j - 36, by omega, ?_⟩
  rw [← key j (by omega) this]
theorem alw_em (y : Int32) : (∃ k, k < 22 ∧ ((tc 0 k = 80 ∨ tc 0 k = 68 ∨ tc 0 k = 83 ∨ tc 0 k = 105 ∨ tc 0 k = 111 ∨ tc 0 k = 98 ∨ tc 0 k = 116 ∨ tc 0 k = 117 ∨ tc 0 k = 101 ∨ tc 0 k = 42 ∨ tc 0 k = 45 ∨ tc 0 k = 44 ∨ (48 ≤ tc 0 k ∧ tc 0 k ≤ 57)) ∧ tc 0 k < 128) ∧ y = nI (tc 0 k)) ∨ ¬ alw y := by
  by_cases h : alw y
  · obtain ⟨k, hk, e⟩ := h
    exact Or.inl ⟨k, hk, tc0_cases k hk, e⟩
  · exact Or.inr h
theorem alw_k : ∀ k, k < 22 → alw (nI (tc 0 k)) := fun k h => ⟨k, h, rfl⟩
set_option maxHeartbeats 4000000 in
set_option maxRecDepth 100000 in
theorem c_Mo_type (y : Int32) {h nr tl ne nf na an tm cn cs bd lt nt wh : Nat} {bp fx fy : Int32} {lm : Nat → Nat} {t : List Nat} (eh : M h = some (moO h (nI t.length) bp (nI nr) (nI wh) (nI tl) (nI ne) (nI nf) (nI na) (nI an) (nI tm) (nI cn) (nI cs) (nI bd) (nI lt) (nI nt) fx fy)) (m1 : M (h + 1) = some (.inl (ca 0, 40, .inl (iN lm)))) (htl : t.length ≤ 40) : gC l D ca A G y_Mo_type (.code y_Mo_type b_Mo_type 3 (some .int)) ({ frames := 0, cells := 0, slots := 0, locals := 0 }) N M [.ref h, .int y] gm_i (fun (r : Int32) (N1 : Nat) (M1 : gm_M) => N = N1 ∧ (((¬ alw y) ∧ M = M1 ∧ (-1) = r) ∨ ((alw y) ∧ (t.length = 40) ∧ M = M1 ∧ (-3) = r) ∨ (∃ (k : Nat), (k < 22) ∧ (y = nI (tc 0 k)) ∧ (t.length < 40) ∧ gm_up (gm_up M (h + 1) (.inl (ca 0, 40, .inl (iN (va_up lm t.length (tc 0 k)))))) h (moO h (nI (t.length + 1)) bp (nI nr) (nI wh) (nI tl) (nI ne) (nI nf) (nI na) (nI an) (nI tm) (nI cn) (nI cs) (nI bd) (nI lt) (nI nt) fx fy) = M1 ∧ nI (t.length + 1) = r))) := by
  refine gm_body (by decide) (Nat.le_of_ble_eq_true rfl) (fun p e s m below meth c ls hx hb hr hts hown hlk hml hnm hP hK hN hX hS hl => ?_)
  have htl : ∀ w ∈ LW, w.before _ s = true := fun w h => hts w (List.mem_cons_of_mem _ h)
  have hown : s.vm.findClass "PacketGateModel" = some m.cls := hown
  have hl : lv_has ls 3 [(0, .ref h), (1, .int y)] := hl
  generalize hQ : MQ below _ _ s _ _ A = Q
  rcases alw_em y with ⟨kq, hkq, htc0, rfl⟩ | hna
  · skip
    refine w_cut (α := Unit) (P := fun u0 => True) (nL := 3) (lv := fun u0 => [(0, .ref h), (1, .int (nI (tc 0 kq)))]) (pc2 := 96) (st2 := fun u0 => []) (fun u0 ls hl hj_96 => ?_) (fun jn_96 => ?_)
    · skip
      have hl : lv_has ls 3 [(0, .ref h), (1, .int (nI (tc 0 kq)))] := hl
      have hj_96 : True := hj_96
      refine W.eq (g2 := F0 m 96 ls []) rfl ?_
      refine lv_aload_n hx hb d_Mo_type_96 rfl (lv_at hl 0 rfl) ?_
      refine gm_get (C := R_Mo) (T := F_Mo) (n := 44) hx hb htl i_Mo hown hK hP eh rfl 1 (by decide) (htl _ k_744) (fun _ h => h) rfl d_Mo_type_97 ?_
      refine lv_bipush (v := nI 40) hx hb d_Mo_type_100 (by decide) ?_
      refine ln_ne (tgt := 108) hx hb d_Mo_type_102 (by decide) (by omega) (by omega) (fun c_1 => ?_) (fun c_1 => ?_)
      · skip
        refine lv_aload_n hx hb d_Mo_type_108 rfl (lv_at hl 0 rfl) ?_
        refine gm_get (C := R_Mo) (T := F_Mo) (n := 44) hx hb htl i_Mo hown hK hP eh rfl 0 (by decide) (htl _ k_743) (fun _ h => h) rfl d_Mo_type_109 ?_
        refine lv_aload_n hx hb d_Mo_type_112 rfl (lv_at hl 0 rfl) ?_
        refine gm_get (C := R_Mo) (T := F_Mo) (n := 44) hx hb htl i_Mo hown hK hP eh rfl 1 (by decide) (htl _ k_744) (fun _ h => h) rfl d_Mo_type_113 ?_
        refine lv_iload_n hx hb d_Mo_type_116 rfl (lv_at hl 1 rfl) ?_
        refine gz_iast hx hb hK hP hS 0 m1 rfl (by omega) (by omega) d_Mo_type_117 (fun H locs hP hS => ?_)
        have hP : gm_P D cls A N (gm_up M (h + 1) (.inl (ca 0, 40, .inl (iN (va_up lm t.length (tc 0 kq)))))) H := hP
        have h_2 := gm_pass (k := (h + 1)) (y := .inl (ca 0, 40, .inl (iN (va_up lm t.length (tc 0 kq))))) eh (gm_ne eh m1 (fun h => by cases h))
        have h_3 := gm_up_self M (h + 1) (.inl (ca 0, 40, .inl (iN (va_up lm t.length (tc 0 kq)))))
        refine lv_aload_n hx hb d_Mo_type_118 rfl (lv_at hl 0 rfl) ?_
        refine lv_dup hx hb d_Mo_type_119 rfl ?_
        refine gm_get (C := R_Mo) (T := F_Mo) (n := 44) hx hb htl i_Mo hown hK hP h_2 rfl 1 (by decide) (htl _ k_744) (fun _ h => h) rfl d_Mo_type_120 ?_
        refine lv_iconst (v := nI 1) hx hb d_Mo_type_123 (by decide) ?_
        refine lv_iadd hx hb d_Mo_type_124 ?_
        rw [show (nI t.length) + (nI 1) = nI (t.length + 1) from nI_add _ _]
        refine gm_put (C := R_Mo) (T := F_Mo) (n := 44) (ty := .int) hx hb htl i_Mo t_Mo tk_Mo n_Mo hown hK hP hS h_2 rfl 1 (by decide) (htl _ k_744) (fun _ h => h) rfl (tk_Mo 1 (by decide)) rfl rfl (Nat.le_of_ble_eq_true rfl) d_Mo_type_125 (fun H locs hP hS => ?_)
        have hP : gm_P D cls A N (gm_up (gm_up M (h + 1) (.inl (ca 0, 40, .inl (iN (va_up lm t.length (tc 0 kq)))))) h (moO h (nI (t.length + 1)) bp (nI nr) (nI wh) (nI tl) (nI ne) (nI nf) (nI na) (nI an) (nI tm) (nI cn) (nI cs) (nI bd) (nI lt) (nI nt) fx fy)) H := hP
        have h_4 := gm_pass (k := h) (y := moO h (nI (t.length + 1)) bp (nI nr) (nI wh) (nI tl) (nI ne) (nI nf) (nI na) (nI an) (nI tm) (nI cn) (nI cs) (nI bd) (nI lt) (nI nt) fx fy) h_3 (gm_ne h_3 h_2 (fun h => by cases h))
        have h_5 := gm_up_self (gm_up M (h + 1) (.inl (ca 0, 40, .inl (iN (va_up lm t.length (tc 0 kq)))))) h (moO h (nI (t.length + 1)) bp (nI nr) (nI wh) (nI tl) (nI ne) (nI nf) (nI na) (nI an) (nI tm) (nI cn) (nI cs) (nI bd) (nI lt) (nI nt) fx fy)
        refine lv_aload_n hx hb d_Mo_type_128 rfl (lv_at hl 0 rfl) ?_
        refine gm_get (C := R_Mo) (T := F_Mo) (n := 44) hx hb htl i_Mo hown hK hP h_5 rfl 1 (by decide) (htl _ k_744) (fun _ h => h) rfl d_Mo_type_129 ?_
        rw [← hQ]
        exact gc_iret hx hb hr hlk hP hS d_Mo_type_132 ⟨rfl, Or.inr (Or.inr ⟨kq, hkq, rfl, by omega, rfl, rfl⟩)⟩
      · skip
        refine lv_bipush (v := (-3)) hx hb d_Mo_type_105 (by decide) ?_
        rw [← hQ]
        exact gc_iret hx hb hr hlk hP hS d_Mo_type_107 ⟨rfl, Or.inr (Or.inl ⟨alw_k kq hkq, by assumption, rfl, rfl⟩)⟩
    · skip
      refine lv_iload_n hx hb d_Mo_type_0 rfl (lv_at hl 1 rfl) ?_
      refine lv_bipush (v := nI 80) hx hb d_Mo_type_1 (by decide) ?_
      refine ln_eq (tgt := 54) hx hb d_Mo_type_3 (by decide) (by omega) (by omega) (fun c_6 => ?_) (fun c_6 => ?_)
      · skip
        refine lv_iconst (v := nI 1) hx hb d_Mo_type_54 (by decide) ?_
        refine lv_goto (tgt := 59) hx hb d_Mo_type_55 (by decide) ?_
        refine lv_istore_n (lv' := [(2, .int (nI 1)), (0, .ref h), (1, .int (nI (tc 0 kq)))]) hx hb d_Mo_type_59 rfl hl (by decide) rfl (fun ls hl => ?_)
        refine lv_iload_n hx hb d_Mo_type_60 rfl (lv_at hl 0 rfl) ?_
        refine lv_if_ne (tgt := 96) hx hb d_Mo_type_61 (by decide) (fun _ => ?_) (fun q => absurd q (by decide))
        exact jn_96 () ls (lv_sub hl [1, 2] rfl) trivial
      · skip
        refine lv_iload_n hx hb d_Mo_type_6 rfl (lv_at hl 1 rfl) ?_
        refine lv_bipush (v := nI 68) hx hb d_Mo_type_7 (by decide) ?_
        refine ln_eq (tgt := 54) hx hb d_Mo_type_9 (by decide) (by omega) (by omega) (fun c_7 => ?_) (fun c_7 => ?_)
        · skip
          refine lv_iconst (v := nI 1) hx hb d_Mo_type_54 (by decide) ?_
          refine lv_goto (tgt := 59) hx hb d_Mo_type_55 (by decide) ?_
          refine lv_istore_n (lv' := [(2, .int (nI 1)), (0, .ref h), (1, .int (nI (tc 0 kq)))]) hx hb d_Mo_type_59 rfl hl (by decide) rfl (fun ls hl => ?_)
          refine lv_iload_n hx hb d_Mo_type_60 rfl (lv_at hl 0 rfl) ?_
          refine lv_if_ne (tgt := 96) hx hb d_Mo_type_61 (by decide) (fun _ => ?_) (fun q => absurd q (by decide))
          exact jn_96 () ls (lv_sub hl [1, 2] rfl) trivial
        · skip
          refine lv_iload_n hx hb d_Mo_type_12 rfl (lv_at hl 1 rfl) ?_
          refine lv_bipush (v := nI 83) hx hb d_Mo_type_13 (by decide) ?_
          refine ln_eq (tgt := 54) hx hb d_Mo_type_15 (by decide) (by omega) (by omega) (fun c_8 => ?_) (fun c_8 => ?_)
          · skip
            refine lv_iconst (v := nI 1) hx hb d_Mo_type_54 (by decide) ?_
            refine lv_goto (tgt := 59) hx hb d_Mo_type_55 (by decide) ?_
            refine lv_istore_n (lv' := [(2, .int (nI 1)), (0, .ref h), (1, .int (nI (tc 0 kq)))]) hx hb d_Mo_type_59 rfl hl (by decide) rfl (fun ls hl => ?_)
            refine lv_iload_n hx hb d_Mo_type_60 rfl (lv_at hl 0 rfl) ?_
            refine lv_if_ne (tgt := 96) hx hb d_Mo_type_61 (by decide) (fun _ => ?_) (fun q => absurd q (by decide))
            exact jn_96 () ls (lv_sub hl [1, 2] rfl) trivial
          · skip
            refine lv_iload_n hx hb d_Mo_type_18 rfl (lv_at hl 1 rfl) ?_
            refine lv_bipush (v := nI 105) hx hb d_Mo_type_19 (by decide) ?_
            refine ln_eq (tgt := 54) hx hb d_Mo_type_21 (by decide) (by omega) (by omega) (fun c_9 => ?_) (fun c_9 => ?_)
            · skip
              refine lv_iconst (v := nI 1) hx hb d_Mo_type_54 (by decide) ?_
              refine lv_goto (tgt := 59) hx hb d_Mo_type_55 (by decide) ?_
              refine lv_istore_n (lv' := [(2, .int (nI 1)), (0, .ref h), (1, .int (nI (tc 0 kq)))]) hx hb d_Mo_type_59 rfl hl (by decide) rfl (fun ls hl => ?_)
              refine lv_iload_n hx hb d_Mo_type_60 rfl (lv_at hl 0 rfl) ?_
              refine lv_if_ne (tgt := 96) hx hb d_Mo_type_61 (by decide) (fun _ => ?_) (fun q => absurd q (by decide))
              exact jn_96 () ls (lv_sub hl [1, 2] rfl) trivial
            · skip
              refine lv_iload_n hx hb d_Mo_type_24 rfl (lv_at hl 1 rfl) ?_
              refine lv_bipush (v := nI 111) hx hb d_Mo_type_25 (by decide) ?_
              refine ln_eq (tgt := 54) hx hb d_Mo_type_27 (by decide) (by omega) (by omega) (fun c_10 => ?_) (fun c_10 => ?_)
              · skip
                refine lv_iconst (v := nI 1) hx hb d_Mo_type_54 (by decide) ?_
                refine lv_goto (tgt := 59) hx hb d_Mo_type_55 (by decide) ?_
                refine lv_istore_n (lv' := [(2, .int (nI 1)), (0, .ref h), (1, .int (nI (tc 0 kq)))]) hx hb d_Mo_type_59 rfl hl (by decide) rfl (fun ls hl => ?_)
                refine lv_iload_n hx hb d_Mo_type_60 rfl (lv_at hl 0 rfl) ?_
                refine lv_if_ne (tgt := 96) hx hb d_Mo_type_61 (by decide) (fun _ => ?_) (fun q => absurd q (by decide))
                exact jn_96 () ls (lv_sub hl [1, 2] rfl) trivial
              · skip
                refine lv_iload_n hx hb d_Mo_type_30 rfl (lv_at hl 1 rfl) ?_
                refine lv_bipush (v := nI 98) hx hb d_Mo_type_31 (by decide) ?_
                refine ln_eq (tgt := 54) hx hb d_Mo_type_33 (by decide) (by omega) (by omega) (fun c_11 => ?_) (fun c_11 => ?_)
                · skip
                  refine lv_iconst (v := nI 1) hx hb d_Mo_type_54 (by decide) ?_
                  refine lv_goto (tgt := 59) hx hb d_Mo_type_55 (by decide) ?_
                  refine lv_istore_n (lv' := [(2, .int (nI 1)), (0, .ref h), (1, .int (nI (tc 0 kq)))]) hx hb d_Mo_type_59 rfl hl (by decide) rfl (fun ls hl => ?_)
                  refine lv_iload_n hx hb d_Mo_type_60 rfl (lv_at hl 0 rfl) ?_
                  refine lv_if_ne (tgt := 96) hx hb d_Mo_type_61 (by decide) (fun _ => ?_) (fun q => absurd q (by decide))
                  exact jn_96 () ls (lv_sub hl [1, 2] rfl) trivial
                · skip
                  refine lv_iload_n hx hb d_Mo_type_36 rfl (lv_at hl 1 rfl) ?_
                  refine lv_bipush (v := nI 116) hx hb d_Mo_type_37 (by decide) ?_
                  refine ln_eq (tgt := 54) hx hb d_Mo_type_39 (by decide) (by omega) (by omega) (fun c_12 => ?_) (fun c_12 => ?_)
                  · skip
                    refine lv_iconst (v := nI 1) hx hb d_Mo_type_54 (by decide) ?_
                    refine lv_goto (tgt := 59) hx hb d_Mo_type_55 (by decide) ?_
                    refine lv_istore_n (lv' := [(2, .int (nI 1)), (0, .ref h), (1, .int (nI (tc 0 kq)))]) hx hb d_Mo_type_59 rfl hl (by decide) rfl (fun ls hl => ?_)
                    refine lv_iload_n hx hb d_Mo_type_60 rfl (lv_at hl 0 rfl) ?_
                    refine lv_if_ne (tgt := 96) hx hb d_Mo_type_61 (by decide) (fun _ => ?_) (fun q => absurd q (by decide))
                    exact jn_96 () ls (lv_sub hl [1, 2] rfl) trivial
                  · skip
                    refine lv_iload_n hx hb d_Mo_type_42 rfl (lv_at hl 1 rfl) ?_
                    refine lv_bipush (v := nI 117) hx hb d_Mo_type_43 (by decide) ?_
                    refine ln_eq (tgt := 54) hx hb d_Mo_type_45 (by decide) (by omega) (by omega) (fun c_13 => ?_) (fun c_13 => ?_)
                    · skip
                      refine lv_iconst (v := nI 1) hx hb d_Mo_type_54 (by decide) ?_
                      refine lv_goto (tgt := 59) hx hb d_Mo_type_55 (by decide) ?_
                      refine lv_istore_n (lv' := [(2, .int (nI 1)), (0, .ref h), (1, .int (nI (tc 0 kq)))]) hx hb d_Mo_type_59 rfl hl (by decide) rfl (fun ls hl => ?_)
                      refine lv_iload_n hx hb d_Mo_type_60 rfl (lv_at hl 0 rfl) ?_
                      refine lv_if_ne (tgt := 96) hx hb d_Mo_type_61 (by decide) (fun _ => ?_) (fun q => absurd q (by decide))
                      exact jn_96 () ls (lv_sub hl [1, 2] rfl) trivial
                    · skip
                      refine lv_iload_n hx hb d_Mo_type_48 rfl (lv_at hl 1 rfl) ?_
                      refine lv_bipush (v := nI 101) hx hb d_Mo_type_49 (by decide) ?_
                      refine ln_ne (tgt := 58) hx hb d_Mo_type_51 (by decide) (by omega) (by omega) (fun c_14 => ?_) (fun c_14 => ?_)
                      · skip
                        refine lv_iconst (v := nI 0) hx hb d_Mo_type_58 (by decide) ?_
                        refine lv_istore_n (lv' := [(2, .int (nI 0)), (0, .ref h), (1, .int (nI (tc 0 kq)))]) hx hb d_Mo_type_59 rfl hl (by decide) rfl (fun ls hl => ?_)
                        refine lv_iload_n hx hb d_Mo_type_60 rfl (lv_at hl 0 rfl) ?_
                        refine lv_if_ne (tgt := 96) hx hb d_Mo_type_61 (by decide) (fun q => absurd q (by decide)) (fun _ => ?_)
                        refine lv_iload_n hx hb d_Mo_type_64 rfl (lv_at hl 2 rfl) ?_
                        refine lv_bipush (v := nI 42) hx hb d_Mo_type_65 (by decide) ?_
                        refine ln_eq (tgt := 96) hx hb d_Mo_type_67 (by decide) (by omega) (by omega) (fun c_15 => ?_) (fun c_15 => ?_)
                        · skip
                          exact jn_96 () ls (lv_sub hl [1, 2] rfl) trivial
                        · skip
                          refine lv_iload_n hx hb d_Mo_type_70 rfl (lv_at hl 2 rfl) ?_
                          refine lv_bipush (v := nI 45) hx hb d_Mo_type_71 (by decide) ?_
                          refine ln_eq (tgt := 96) hx hb d_Mo_type_73 (by decide) (by omega) (by omega) (fun c_16 => ?_) (fun c_16 => ?_)
                          · skip
                            exact jn_96 () ls (lv_sub hl [1, 2] rfl) trivial
                          · skip
                            refine lv_iload_n hx hb d_Mo_type_76 rfl (lv_at hl 2 rfl) ?_
                            refine lv_bipush (v := nI 44) hx hb d_Mo_type_77 (by decide) ?_
                            refine ln_eq (tgt := 96) hx hb d_Mo_type_79 (by decide) (by omega) (by omega) (fun c_17 => ?_) (fun c_17 => ?_)
                            · skip
                              exact jn_96 () ls (lv_sub hl [1, 2] rfl) trivial
                            · skip
                              refine lv_iload_n hx hb d_Mo_type_82 rfl (lv_at hl 2 rfl) ?_
                              refine lv_bipush (v := nI 48) hx hb d_Mo_type_83 (by decide) ?_
                              refine ln_lt (tgt := 94) hx hb d_Mo_type_85 (by decide) (by omega) (by omega) (fun c_18 => ?_) (fun c_18 => ?_)
                              · skip
                                refine lv_iconst (v := (-1)) hx hb d_Mo_type_94 (by decide) ?_
                                rw [← hQ]
                                exact gc_iret hx hb hr hlk hP hS d_Mo_type_95 (by exact absurd htc0 (by omega))
                              · skip
                                refine lv_iload_n hx hb d_Mo_type_88 rfl (lv_at hl 2 rfl) ?_
                                refine lv_bipush (v := nI 57) hx hb d_Mo_type_89 (by decide) ?_
                                refine ln_le (tgt := 96) hx hb d_Mo_type_91 (by decide) (by omega) (by omega) (fun c_19 => ?_) (fun c_19 => ?_)
                                · skip
                                  exact jn_96 () ls (lv_sub hl [1, 2] rfl) trivial
                                · skip
                                  refine lv_iconst (v := (-1)) hx hb d_Mo_type_94 (by decide) ?_
                                  rw [← hQ]
                                  exact gc_iret hx hb hr hlk hP hS d_Mo_type_95 (by exact absurd htc0 (by omega))
                      · skip
                        refine lv_iconst (v := nI 1) hx hb d_Mo_type_54 (by decide) ?_
                        refine lv_goto (tgt := 59) hx hb d_Mo_type_55 (by decide) ?_
                        refine lv_istore_n (lv' := [(2, .int (nI 1)), (0, .ref h), (1, .int (nI (tc 0 kq)))]) hx hb d_Mo_type_59 rfl hl (by decide) rfl (fun ls hl => ?_)
                        refine lv_iload_n hx hb d_Mo_type_60 rfl (lv_at hl 0 rfl) ?_
                        refine lv_if_ne (tgt := 96) hx hb d_Mo_type_61 (by decide) (fun _ => ?_) (fun q => absurd q (by decide))
                        exact jn_96 () ls (lv_sub hl [1, 2] rfl) trivial
  · skip
    refine lv_iload_n hx hb d_Mo_type_0 rfl (lv_at hl 1 rfl) ?_
    refine lv_bipush (v := nI 80) hx hb d_Mo_type_1 (by decide) ?_
    refine lv_icmp_eq (tgt := 54) hx hb d_Mo_type_3 (by decide) (fun c_20 => ?_) (fun c_20 => ?_)
    · exact absurd ⟨0, by decide, c_20⟩ hna
    · skip
      refine lv_iload_n hx hb d_Mo_type_6 rfl (lv_at hl 1 rfl) ?_
      refine lv_bipush (v := nI 68) hx hb d_Mo_type_7 (by decide) ?_
      refine lv_icmp_eq (tgt := 54) hx hb d_Mo_type_9 (by decide) (fun c_21 => ?_) (fun c_21 => ?_)
      · exact absurd ⟨1, by decide, c_21⟩ hna
      · skip
        refine lv_iload_n hx hb d_Mo_type_12 rfl (lv_at hl 1 rfl) ?_
        refine lv_bipush (v := nI 83) hx hb d_Mo_type_13 (by decide) ?_
        refine lv_icmp_eq (tgt := 54) hx hb d_Mo_type_15 (by decide) (fun c_22 => ?_) (fun c_22 => ?_)
        · exact absurd ⟨2, by decide, c_22⟩ hna
        · skip
          refine lv_iload_n hx hb d_Mo_type_18 rfl (lv_at hl 1 rfl) ?_
          refine lv_bipush (v := nI 105) hx hb d_Mo_type_19 (by decide) ?_
          refine lv_icmp_eq (tgt := 54) hx hb d_Mo_type_21 (by decide) (fun c_23 => ?_) (fun c_23 => ?_)
          · exact absurd ⟨3, by decide, c_23⟩ hna
          · skip
            refine lv_iload_n hx hb d_Mo_type_24 rfl (lv_at hl 1 rfl) ?_
            refine lv_bipush (v := nI 111) hx hb d_Mo_type_25 (by decide) ?_
            refine lv_icmp_eq (tgt := 54) hx hb d_Mo_type_27 (by decide) (fun c_24 => ?_) (fun c_24 => ?_)
            · exact absurd ⟨4, by decide, c_24⟩ hna
            · skip
              refine lv_iload_n hx hb d_Mo_type_30 rfl (lv_at hl 1 rfl) ?_
              refine lv_bipush (v := nI 98) hx hb d_Mo_type_31 (by decide) ?_
              refine lv_icmp_eq (tgt := 54) hx hb d_Mo_type_33 (by decide) (fun c_25 => ?_) (fun c_25 => ?_)
              · exact absurd ⟨5, by decide, c_25⟩ hna
              · skip
                refine lv_iload_n hx hb d_Mo_type_36 rfl (lv_at hl 1 rfl) ?_
                refine lv_bipush (v := nI 116) hx hb d_Mo_type_37 (by decide) ?_
                refine lv_icmp_eq (tgt := 54) hx hb d_Mo_type_39 (by decide) (fun c_26 => ?_) (fun c_26 => ?_)
                · exact absurd ⟨6, by decide, c_26⟩ hna
                · skip
                  refine lv_iload_n hx hb d_Mo_type_42 rfl (lv_at hl 1 rfl) ?_
                  refine lv_bipush (v := nI 117) hx hb d_Mo_type_43 (by decide) ?_
                  refine lv_icmp_eq (tgt := 54) hx hb d_Mo_type_45 (by decide) (fun c_27 => ?_) (fun c_27 => ?_)
                  · exact absurd ⟨7, by decide, c_27⟩ hna
                  · skip
                    refine lv_iload_n hx hb d_Mo_type_48 rfl (lv_at hl 1 rfl) ?_
                    refine lv_bipush (v := nI 101) hx hb d_Mo_type_49 (by decide) ?_
                    refine lv_icmp_ne (tgt := 58) hx hb d_Mo_type_51 (by decide) (fun c_28 => ?_) (fun c_28 => ?_)
                    · skip
                      refine lv_iconst (v := nI 0) hx hb d_Mo_type_58 (by decide) ?_
                      refine lv_istore_n (lv' := [(2, .int (nI 0)), (0, .ref h), (1, .int y)]) hx hb d_Mo_type_59 rfl hl (by decide) rfl (fun ls hl => ?_)
                      refine lv_iload_n hx hb d_Mo_type_60 rfl (lv_at hl 0 rfl) ?_
                      refine lv_if_ne (tgt := 96) hx hb d_Mo_type_61 (by decide) (fun q => absurd q (by decide)) (fun _ => ?_)
                      refine lv_iload_n hx hb d_Mo_type_64 rfl (lv_at hl 2 rfl) ?_
                      refine lv_bipush (v := nI 42) hx hb d_Mo_type_65 (by decide) ?_
                      refine lv_icmp_eq (tgt := 96) hx hb d_Mo_type_67 (by decide) (fun c_29 => ?_) (fun c_29 => ?_)
                      · exact absurd ⟨9, by decide, c_29⟩ hna
                      · skip
                        refine lv_iload_n hx hb d_Mo_type_70 rfl (lv_at hl 2 rfl) ?_
                        refine lv_bipush (v := nI 45) hx hb d_Mo_type_71 (by decide) ?_
                        refine lv_icmp_eq (tgt := 96) hx hb d_Mo_type_73 (by decide) (fun c_30 => ?_) (fun c_30 => ?_)
                        · exact absurd ⟨10, by decide, c_30⟩ hna
                        · skip
                          refine lv_iload_n hx hb d_Mo_type_76 rfl (lv_at hl 2 rfl) ?_
                          refine lv_bipush (v := nI 44) hx hb d_Mo_type_77 (by decide) ?_
                          refine lv_icmp_eq (tgt := 96) hx hb d_Mo_type_79 (by decide) (fun c_31 => ?_) (fun c_31 => ?_)
                          · exact absurd ⟨11, by decide, c_31⟩ hna
                          · skip
                            refine lv_iload_n hx hb d_Mo_type_82 rfl (lv_at hl 2 rfl) ?_
                            refine lv_bipush (v := nI 48) hx hb d_Mo_type_83 (by decide) ?_
                            refine lv_icmp_lt (tgt := 94) hx hb d_Mo_type_85 (by decide) (fun c_32 => ?_) (fun c_32 => ?_)
                            · skip
                              refine lv_iconst (v := (-1)) hx hb d_Mo_type_94 (by decide) ?_
                              rw [← hQ]
                              exact gc_iret hx hb hr hlk hP hS d_Mo_type_95 ⟨rfl, Or.inl ⟨hna, rfl, rfl⟩⟩
                            · skip
                              refine lv_iload_n hx hb d_Mo_type_88 rfl (lv_at hl 2 rfl) ?_
                              refine lv_bipush (v := nI 57) hx hb d_Mo_type_89 (by decide) ?_
                              refine lv_icmp_le (tgt := 96) hx hb d_Mo_type_91 (by decide) (fun c_33 => ?_) (fun c_33 => ?_)
                              · exact absurd (alw_d (by assumption) c_33) hna
                              · skip
                                refine lv_iconst (v := (-1)) hx hb d_Mo_type_94 (by decide) ?_
                                rw [← hQ]
                                exact gc_iret hx hb hr hlk hP hS d_Mo_type_95 ⟨rfl, Or.inl ⟨hna, rfl, rfl⟩⟩
                    · exact absurd ⟨8, by decide, c_28⟩ hna
set_option maxHeartbeats 4000000 in
set_option maxRecDepth 100000 in
theorem c_Mo_canReach {v d ls0 : Nat} (hv : v ≤ 999) (hd : d ≤ 3) (hls : ls0 ≤ 255) : gC l D ca A G y_Mo_canReach (.code y_Mo_canReach b_Mo_canReach 7 (some .boolean)) ({ frames := 0, cells := 0, slots := 0, locals := 0 }) N M [.int (nI v), .int (nI d), .int (nI ls0)] gm_i (fun (r : Int32) (N1 : Nat) (M1 : gm_M) => N = N1 ∧ (((cRf (4 - d) v 1 ls0 = true) ∧ M = M1 ∧ nI 1 = r) ∨ ((cRf (4 - d) v 1 ls0 = false) ∧ M = M1 ∧ nI 0 = r))) := by
  refine gm_body (by decide) (Nat.le_of_ble_eq_true rfl) (fun p e s m below meth c ls hx hb hr hts hown hlk hml hnm hP hK hN hX hS hl => ?_)
  have htl : ∀ w ∈ LW, w.before _ s = true := fun w h => hts w (List.mem_cons_of_mem _ h)
  have hown : s.vm.findClass "PacketGateModel" = some m.cls := hown
  have hl : lv_has ls 7 [(0, .int (nI v)), (1, .int (nI d)), (2, .int (nI ls0))] := hl
  generalize hQ : MQ below _ _ s _ _ A = Q
  refine lv_iload_n hx hb d_Mo_canReach_0 rfl (lv_at hl 0 rfl) ?_
  refine lv_istore_n (lv' := [(3, .int (nI v)), (0, .int (nI v)), (1, .int (nI d)), (2, .int (nI ls0))]) hx hb d_Mo_canReach_1 rfl hl (by decide) rfl (fun ls hl => ?_)
  refine lv_iconst (v := nI 1) hx hb d_Mo_canReach_2 (by decide) ?_
  refine lv_istore (lv' := [(4, .int (nI 1)), (3, .int (nI v)), (0, .int (nI v)), (1, .int (nI d)), (2, .int (nI ls0))]) hx hb d_Mo_canReach_3 hl (by decide) rfl (fun ls hl => ?_)
  refine lv_iload_n hx hb d_Mo_canReach_5 rfl (lv_at hl 3 rfl) ?_
  refine lv_istore (lv' := [(5, .int (nI d)), (4, .int (nI 1)), (3, .int (nI v)), (0, .int (nI v)), (1, .int (nI d)), (2, .int (nI ls0))]) hx hb d_Mo_canReach_6 hl (by decide) rfl (fun ls hl => ?_)
  have loop_8 : ∀ (fu : Nat) (b : Nat) (wd : Nat) (k : Nat) (ls : Array Slot) (H : Heap) (locs : List Loc), (d ≤ k ∧ k ≤ 4) → (b ≤ 999 * p10 k ∧ wd ≤ p10 k ∧ 1 ≤ wd ∧ p10 k ≤ 10000) → (cRf (4 - k) b wd ls0 = cRf (4 - d) v 1 ls0) → (4 - k) < fu → gm_P D cls A N M H → va_S A s.heap H locs → lv_has ls 7 [(2, .int (nI ls0)), (3, .int (nI b)), (4, .int (nI wd)), (5, .int (nI k))] → W p l e ({ frames := 0, cells := 0, slots := 0, locals := 0 }) s m ([.int (nI v), .int (nI d), .int (nI ls0)] : List Value).toArray below meth c H locs (0) (0) Q (F0 m 8 ls []) := by
    intro fu
    induction fu with
    | zero => intro b wd k ls H locs hk hb0 hcr hk; exact absurd hk (Nat.not_lt_zero _)
    | succ fu ih_8 =>
      intro b wd k ls H locs hk hb0 hcr hk hP hS hl
      refine lv_iload hx hb d_Mo_canReach_8 (lv_at hl 3 rfl) ?_
      refine lv_iconst (v := nI 3) hx hb d_Mo_canReach_10 (by decide) ?_
      refine ln_gt (tgt := 73) hx hb d_Mo_canReach_11 (by decide) (by omega) (by omega) (fun c_1 => ?_) (fun c_1 => ?_)
      · skip
        refine lv_iconst (v := nI 0) hx hb d_Mo_canReach_73 (by decide) ?_
        rw [← hQ]
        exact gc_zret hx hb hr hlk hP hS d_Mo_canReach_74 rfl ⟨rfl, Or.inr ⟨by rw [← hcr, show 4 - k = 0 by omega]; rfl, rfl, rfl⟩⟩
      · skip
        refine lv_iload_n hx hb d_Mo_canReach_14 rfl (lv_at hl 1 rfl) ?_
        refine lv_iload hx hb d_Mo_canReach_15 (lv_at hl 2 rfl) ?_
        refine lv_iadd hx hb d_Mo_canReach_17 ?_
        rw [show (nI b) + (nI wd) = nI (b + wd) from nI_add _ _]
        refine lv_iconst (v := nI 1) hx hb d_Mo_canReach_18 (by decide) ?_
        refine lv_isub hx hb d_Mo_canReach_19 ?_
        rw [show (nI (b + wd)) - (nI 1) = nI ((b + wd) - 1) from pk_sub (by omega)]
        refine lv_sipush (v := nI 255) hx hb d_Mo_canReach_20 (by decide) ?_
        refine ln_ge (tgt := 35) hx hb d_Mo_canReach_23 (by decide) (by omega) (by omega) (fun c_2 => ?_) (fun c_2 => ?_)
        · skip
          refine lv_sipush (v := nI 255) hx hb d_Mo_canReach_35 (by decide) ?_
          refine lv_istore (lv' := [(6, .int (nI 255)), (2, .int (nI ls0)), (3, .int (nI b)), (4, .int (nI wd)), (5, .int (nI k))]) hx hb d_Mo_canReach_38 hl (by decide) rfl (fun ls hl => ?_)
          refine lv_iload_n hx hb d_Mo_canReach_40 rfl (lv_at hl 2 rfl) ?_
          refine lv_sipush (v := nI 255) hx hb d_Mo_canReach_41 (by decide) ?_
          refine ln_gt (tgt := 55) hx hb d_Mo_canReach_44 (by decide) (by omega) (by omega) (fun c_3 => ?_) (fun c_3 => ?_)
          · skip
            refine lv_iload_n hx hb d_Mo_canReach_55 rfl (lv_at hl 2 rfl) ?_
            refine lv_bipush (v := nI 10) hx hb d_Mo_canReach_56 (by decide) ?_
            refine lv_imul hx hb d_Mo_canReach_58 ?_
            rw [show (nI b) * (nI 10) = nI (b * 10) from pk_mul _ _]
            refine lv_istore_n (lv' := [(3, .int (nI (b * 10))), (6, .int (nI 255)), (2, .int (nI ls0)), (4, .int (nI wd)), (5, .int (nI k))]) hx hb d_Mo_canReach_59 rfl hl (by decide) rfl (fun ls hl => ?_)
            refine lv_iload hx hb d_Mo_canReach_60 (lv_at hl 3 rfl) ?_
            refine lv_bipush (v := nI 10) hx hb d_Mo_canReach_62 (by decide) ?_
            refine lv_imul hx hb d_Mo_canReach_64 ?_
            rw [show (nI wd) * (nI 10) = nI (wd * 10) from pk_mul _ _]
            refine lv_istore (lv' := [(4, .int (nI (wd * 10))), (3, .int (nI (b * 10))), (6, .int (nI 255)), (2, .int (nI ls0)), (5, .int (nI k))]) hx hb d_Mo_canReach_65 hl (by decide) rfl (fun ls hl => ?_)
            refine lv_iinc (v := nI (k + 1)) (lv' := [(5, .int (nI (k + 1))), (4, .int (nI (wd * 10))), (3, .int (nI (b * 10))), (6, .int (nI 255)), (2, .int (nI ls0))]) hx hb d_Mo_canReach_67 hl (k := 4) rfl (nI_1 k) (by decide) rfl (fun ls hl => ?_)
            refine lv_goto (tgt := 8) hx hb d_Mo_canReach_70 (by decide) ?_
            exact ih_8 (b * 10) (wd * 10) (k + 1) ls _ _ (by omega) (by have := p10_s k (by omega); have := p10_le (k + 1) (by omega); omega) (by rw [← hcr, show 4 - k = (4 - (k + 1)) + 1 by omega, cRf_f (fun q => by have := q.1; have := q.2; split at this <;> omega)]) (by omega) hP hS (lv_sub hl [4, 2, 1, 0] rfl)
          · skip
            refine lv_iload hx hb d_Mo_canReach_47 (lv_at hl 0 rfl) ?_
            refine lv_iload_n hx hb d_Mo_canReach_49 rfl (lv_at hl 1 rfl) ?_
            refine ln_lt (tgt := 55) hx hb d_Mo_canReach_50 (by decide) (by omega) (by omega) (fun c_4 => ?_) (fun c_4 => ?_)
            · skip
              refine lv_iload_n hx hb d_Mo_canReach_55 rfl (lv_at hl 2 rfl) ?_
              refine lv_bipush (v := nI 10) hx hb d_Mo_canReach_56 (by decide) ?_
              refine lv_imul hx hb d_Mo_canReach_58 ?_
              rw [show (nI b) * (nI 10) = nI (b * 10) from pk_mul _ _]
              refine lv_istore_n (lv' := [(3, .int (nI (b * 10))), (6, .int (nI 255)), (2, .int (nI ls0)), (4, .int (nI wd)), (5, .int (nI k))]) hx hb d_Mo_canReach_59 rfl hl (by decide) rfl (fun ls hl => ?_)
              refine lv_iload hx hb d_Mo_canReach_60 (lv_at hl 3 rfl) ?_
              refine lv_bipush (v := nI 10) hx hb d_Mo_canReach_62 (by decide) ?_
              refine lv_imul hx hb d_Mo_canReach_64 ?_
              rw [show (nI wd) * (nI 10) = nI (wd * 10) from pk_mul _ _]
              refine lv_istore (lv' := [(4, .int (nI (wd * 10))), (3, .int (nI (b * 10))), (6, .int (nI 255)), (2, .int (nI ls0)), (5, .int (nI k))]) hx hb d_Mo_canReach_65 hl (by decide) rfl (fun ls hl => ?_)
              refine lv_iinc (v := nI (k + 1)) (lv' := [(5, .int (nI (k + 1))), (4, .int (nI (wd * 10))), (3, .int (nI (b * 10))), (6, .int (nI 255)), (2, .int (nI ls0))]) hx hb d_Mo_canReach_67 hl (k := 4) rfl (nI_1 k) (by decide) rfl (fun ls hl => ?_)
              refine lv_goto (tgt := 8) hx hb d_Mo_canReach_70 (by decide) ?_
              exact ih_8 (b * 10) (wd * 10) (k + 1) ls _ _ (by omega) (by have := p10_s k (by omega); have := p10_le (k + 1) (by omega); omega) (by rw [← hcr, show 4 - k = (4 - (k + 1)) + 1 by omega, cRf_f (fun q => by have := q.1; have := q.2; split at this <;> omega)]) (by omega) hP hS (lv_sub hl [4, 2, 1, 0] rfl)
            · skip
              refine lv_iconst (v := nI 1) hx hb d_Mo_canReach_53 (by decide) ?_
              rw [← hQ]
              exact gc_zret hx hb hr hlk hP hS d_Mo_canReach_54 rfl ⟨rfl, Or.inl ⟨by rw [← hcr, show 4 - k = (4 - (k + 1)) + 1 by omega, cRf_t ⟨by omega, by split <;> omega⟩], rfl, rfl⟩⟩
        · skip
          refine lv_iload_n hx hb d_Mo_canReach_26 rfl (lv_at hl 1 rfl) ?_
          refine lv_iload hx hb d_Mo_canReach_27 (lv_at hl 2 rfl) ?_
          refine lv_iadd hx hb d_Mo_canReach_29 ?_
          rw [show (nI b) + (nI wd) = nI (b + wd) from nI_add _ _]
          refine lv_iconst (v := nI 1) hx hb d_Mo_canReach_30 (by decide) ?_
          refine lv_isub hx hb d_Mo_canReach_31 ?_
          rw [show (nI (b + wd)) - (nI 1) = nI ((b + wd) - 1) from pk_sub (by omega)]
          refine lv_goto (tgt := 38) hx hb d_Mo_canReach_32 (by decide) ?_
          refine lv_istore (lv' := [(6, .int (nI ((b + wd) - 1))), (2, .int (nI ls0)), (3, .int (nI b)), (4, .int (nI wd)), (5, .int (nI k))]) hx hb d_Mo_canReach_38 hl (by decide) rfl (fun ls hl => ?_)
          refine lv_iload_n hx hb d_Mo_canReach_40 rfl (lv_at hl 2 rfl) ?_
          refine lv_sipush (v := nI 255) hx hb d_Mo_canReach_41 (by decide) ?_
          refine ln_gt (tgt := 55) hx hb d_Mo_canReach_44 (by decide) (by omega) (by omega) (fun c_5 => ?_) (fun c_5 => ?_)
          · skip
            refine lv_iload_n hx hb d_Mo_canReach_55 rfl (lv_at hl 2 rfl) ?_
            refine lv_bipush (v := nI 10) hx hb d_Mo_canReach_56 (by decide) ?_
            refine lv_imul hx hb d_Mo_canReach_58 ?_
            rw [show (nI b) * (nI 10) = nI (b * 10) from pk_mul _ _]
            refine lv_istore_n (lv' := [(3, .int (nI (b * 10))), (6, .int (nI ((b + wd) - 1))), (2, .int (nI ls0)), (4, .int (nI wd)), (5, .int (nI k))]) hx hb d_Mo_canReach_59 rfl hl (by decide) rfl (fun ls hl => ?_)
            refine lv_iload hx hb d_Mo_canReach_60 (lv_at hl 3 rfl) ?_
            refine lv_bipush (v := nI 10) hx hb d_Mo_canReach_62 (by decide) ?_
            refine lv_imul hx hb d_Mo_canReach_64 ?_
            rw [show (nI wd) * (nI 10) = nI (wd * 10) from pk_mul _ _]
            refine lv_istore (lv' := [(4, .int (nI (wd * 10))), (3, .int (nI (b * 10))), (6, .int (nI ((b + wd) - 1))), (2, .int (nI ls0)), (5, .int (nI k))]) hx hb d_Mo_canReach_65 hl (by decide) rfl (fun ls hl => ?_)
            refine lv_iinc (v := nI (k + 1)) (lv' := [(5, .int (nI (k + 1))), (4, .int (nI (wd * 10))), (3, .int (nI (b * 10))), (6, .int (nI ((b + wd) - 1))), (2, .int (nI ls0))]) hx hb d_Mo_canReach_67 hl (k := 4) rfl (nI_1 k) (by decide) rfl (fun ls hl => ?_)
            refine lv_goto (tgt := 8) hx hb d_Mo_canReach_70 (by decide) ?_
            exact ih_8 (b * 10) (wd * 10) (k + 1) ls _ _ (by omega) (by have := p10_s k (by omega); have := p10_le (k + 1) (by omega); omega) (by rw [← hcr, show 4 - k = (4 - (k + 1)) + 1 by omega, cRf_f (fun q => by have := q.1; have := q.2; split at this <;> omega)]) (by omega) hP hS (lv_sub hl [4, 2, 1, 0] rfl)
          · skip
            refine lv_iload hx hb d_Mo_canReach_47 (lv_at hl 0 rfl) ?_
            refine lv_iload_n hx hb d_Mo_canReach_49 rfl (lv_at hl 1 rfl) ?_
            refine ln_lt (tgt := 55) hx hb d_Mo_canReach_50 (by decide) (by omega) (by omega) (fun c_6 => ?_) (fun c_6 => ?_)
            · skip
              refine lv_iload_n hx hb d_Mo_canReach_55 rfl (lv_at hl 2 rfl) ?_
              refine lv_bipush (v := nI 10) hx hb d_Mo_canReach_56 (by decide) ?_
              refine lv_imul hx hb d_Mo_canReach_58 ?_
              rw [show (nI b) * (nI 10) = nI (b * 10) from pk_mul _ _]
              refine lv_istore_n (lv' := [(3, .int (nI (b * 10))), (6, .int (nI ((b + wd) - 1))), (2, .int (nI ls0)), (4, .int (nI wd)), (5, .int (nI k))]) hx hb d_Mo_canReach_59 rfl hl (by decide) rfl (fun ls hl => ?_)
              refine lv_iload hx hb d_Mo_canReach_60 (lv_at hl 3 rfl) ?_
              refine lv_bipush (v := nI 10) hx hb d_Mo_canReach_62 (by decide) ?_
              refine lv_imul hx hb d_Mo_canReach_64 ?_
              rw [show (nI wd) * (nI 10) = nI (wd * 10) from pk_mul _ _]
              refine lv_istore (lv' := [(4, .int (nI (wd * 10))), (3, .int (nI (b * 10))), (6, .int (nI ((b + wd) - 1))), (2, .int (nI ls0)), (5, .int (nI k))]) hx hb d_Mo_canReach_65 hl (by decide) rfl (fun ls hl => ?_)
              refine lv_iinc (v := nI (k + 1)) (lv' := [(5, .int (nI (k + 1))), (4, .int (nI (wd * 10))), (3, .int (nI (b * 10))), (6, .int (nI ((b + wd) - 1))), (2, .int (nI ls0))]) hx hb d_Mo_canReach_67 hl (k := 4) rfl (nI_1 k) (by decide) rfl (fun ls hl => ?_)
              refine lv_goto (tgt := 8) hx hb d_Mo_canReach_70 (by decide) ?_
              exact ih_8 (b * 10) (wd * 10) (k + 1) ls _ _ (by omega) (by have := p10_s k (by omega); have := p10_le (k + 1) (by omega); omega) (by rw [← hcr, show 4 - k = (4 - (k + 1)) + 1 by omega, cRf_f (fun q => by have := q.1; have := q.2; split at this <;> omega)]) (by omega) hP hS (lv_sub hl [4, 2, 1, 0] rfl)
            · skip
              refine lv_iconst (v := nI 1) hx hb d_Mo_canReach_53 (by decide) ?_
              rw [← hQ]
              exact gc_zret hx hb hr hlk hP hS d_Mo_canReach_54 rfl ⟨rfl, Or.inl ⟨by rw [← hcr, show 4 - k = (4 - (k + 1)) + 1 by omega, cRf_t ⟨by omega, by split <;> omega⟩], rfl, rfl⟩⟩
  exact loop_8 (_ + 1) v 1 d ls _ _ (⟨Nat.le_refl _, by omega⟩) (by have := p10_le d (by omega); omega) rfl (Nat.lt_succ_self _) hP hS (lv_sub hl [5, 2, 1, 0] rfl)
set_option maxHeartbeats 4000000 in
set_option maxRecDepth 100000 in
theorem c_Mo_worth {h le nr tl ne nf na an tm cn cs bd lt nt wh : Nat} {bp fx fy : Int32} {lm : Nat → Nat} {t : List Nat} {a b : Nat} (eh : M h = some (moO h (nI le) bp (nI nr) (nI wh) (nI tl) (nI ne) (nI nf) (nI na) (nI an) (nI tm) (nI cn) (nI cs) (nI bd) (nI lt) (nI nt) fx fy)) (m1 : M (h + 1) = some (.inl (ca 0, 40, .inl (iN lm)))) (hlm : txM lm t) (htl : t.length ≤ 40) (hc8 : ∀ i, i < t.length → t.getD i 32 < 256) (hab : a ≤ b ∧ b ≤ a + 3 ∧ b ≤ t.length) (hdg : ∀ i, a ≤ i → i < b → dgt t i) : gC l D ca A G y_Mo_worth (.code y_Mo_worth b_Mo_worth 5 (some .int)) ({ frames := 0, cells := 0, slots := 0, locals := 0 }) N M [.ref h, .int (nI a), .int (nI b)] gm_i (fun (r : Int32) (N1 : Nat) (M1 : gm_M) => N = N1 ∧ M = M1 ∧ nI (wth t a (b - a)) = r) := by
  refine gm_body (by decide) (Nat.le_of_ble_eq_true rfl) (fun p e s m below meth c ls hx hb hr hts hown hlk hml hnm hP hK hN hX hS hl => ?_)
  have htl : ∀ w ∈ LW, w.before _ s = true := fun w h => hts w (List.mem_cons_of_mem _ h)
  have hown : s.vm.findClass "PacketGateModel" = some m.cls := hown
  have hl : lv_has ls 5 [(0, .ref h), (1, .int (nI a)), (2, .int (nI b))] := hl
  generalize hQ : MQ below _ _ s _ _ A = Q
  refine lv_iconst (v := nI 0) hx hb d_Mo_worth_0 (by decide) ?_
  refine lv_istore_n (lv' := [(3, .int (nI 0)), (0, .ref h), (1, .int (nI a)), (2, .int (nI b))]) hx hb d_Mo_worth_1 rfl hl (by decide) rfl (fun ls hl => ?_)
  refine lv_iload_n hx hb d_Mo_worth_2 rfl (lv_at hl 2 rfl) ?_
  refine lv_istore (lv' := [(4, .int (nI a)), (3, .int (nI 0)), (0, .ref h), (1, .int (nI a)), (2, .int (nI b))]) hx hb d_Mo_worth_3 hl (by decide) rfl (fun ls hl => ?_)
  have loop_5 : ∀ (fu : Nat) (j : Nat) (ls : Array Slot) (H : Heap) (locs : List Loc), (a + j ≤ b) → (b - (a + j)) < fu → gm_P D cls A N M H → va_S A s.heap H locs → lv_has ls 5 [(0, .ref h), (2, .int (nI b)), (3, .int (nI (wth t a j))), (4, .int (nI (a + j)))] → W p l e ({ frames := 0, cells := 0, slots := 0, locals := 0 }) s m ([.ref h, .int (nI a), .int (nI b)] : List Value).toArray below meth c H locs (0) (0) Q (F0 m 5 ls []) := by
    intro fu
    induction fu with
    | zero => intro j ls H locs hj hk; exact absurd hk (Nat.not_lt_zero _)
    | succ fu ih_5 =>
      intro j ls H locs hj hk hP hS hl
      refine lv_iload hx hb d_Mo_worth_5 (lv_at hl 3 rfl) ?_
      refine lv_iload_n hx hb d_Mo_worth_7 rfl (lv_at hl 1 rfl) ?_
      refine ln_ge (tgt := 33) hx hb d_Mo_worth_8 (by decide) (by omega) (by omega) (fun c_1 => ?_) (fun c_1 => ?_)
      · skip
        refine lv_iload_n hx hb d_Mo_worth_33 rfl (lv_at hl 2 rfl) ?_
        rw [← hQ]
        exact gc_iret hx hb hr hlk hP hS d_Mo_worth_34 ⟨rfl, rfl, by rw [show b - a = j from (by omega)]⟩
      · skip
        have hd_ : 48 ≤ t.getD (a + j) 32 ∧ t.getD (a + j) 32 ≤ 57 := hdg (a + j) (by omega) (by omega)
        have hw_ := wth_lt (t := t) (a := a) j (by omega) (fun i x y => hdg i x (by omega))
        have hw2_ := p10_le j (by omega)
        refine lv_iload_n hx hb d_Mo_worth_11 rfl (lv_at hl 2 rfl) ?_
        refine lv_bipush (v := nI 10) hx hb d_Mo_worth_12 (by decide) ?_
        refine lv_imul hx hb d_Mo_worth_14 ?_
        rw [show (nI (wth t a j)) * (nI 10) = nI ((wth t a j) * 10) from pk_mul _ _]
        refine lv_aload_n hx hb d_Mo_worth_15 rfl (lv_at hl 0 rfl) ?_
        refine gm_get (C := R_Mo) (T := F_Mo) (n := 44) hx hb htl i_Mo hown hK hP eh rfl 0 (by decide) (htl _ k_743) (fun _ h => h) rfl d_Mo_worth_16 ?_
        refine lv_iload hx hb d_Mo_worth_19 (lv_at hl 3 rfl) ?_
        refine gz_iald hx hb hK hP 0 m1 rfl (by omega) (by omega) d_Mo_worth_21 ?_
        rw [show lm (a + j) = t.getD (a + j) 32 from txM_32 hlm (by omega)]
        have b_2 := hc8 (a + j) (by omega)
        refine lv_iadd hx hb d_Mo_worth_22 ?_
        rw [show (nI ((wth t a j) * 10)) + (nI (t.getD (a + j) 32)) = nI (((wth t a j) * 10) + (t.getD (a + j) 32)) from nI_add _ _]
        refine lv_bipush (v := nI 48) hx hb d_Mo_worth_23 (by decide) ?_
        refine lv_isub hx hb d_Mo_worth_25 ?_
        rw [show (nI (((wth t a j) * 10) + (t.getD (a + j) 32))) - (nI 48) = nI ((((wth t a j) * 10) + (t.getD (a + j) 32)) - 48) from pk_sub (by omega)]
        refine lv_istore_n (lv' := [(3, .int (nI ((((wth t a j) * 10) + (t.getD (a + j) 32)) - 48))), (0, .ref h), (2, .int (nI b)), (4, .int (nI (a + j)))]) hx hb d_Mo_worth_26 rfl hl (by decide) rfl (fun ls hl => ?_)
        refine lv_iinc (v := nI (a + j + 1)) (lv' := [(4, .int (nI (a + j + 1))), (3, .int (nI ((((wth t a j) * 10) + (t.getD (a + j) 32)) - 48))), (0, .ref h), (2, .int (nI b))]) hx hb d_Mo_worth_27 hl (k := 3) rfl (nI_1 (a + j)) (by decide) rfl (fun ls hl => ?_)
        refine lv_goto (tgt := 5) hx hb d_Mo_worth_30 (by decide) ?_
        exact ih_5 (j + 1) ls _ _ (by omega) (by omega) hP hS (lv_sub hl [2, 3, 1, 0] rfl)
  exact loop_5 (_ + 1) 0 ls _ _ (by omega) (Nat.lt_succ_self _) hP hS (lv_sub hl [2, 4, 1, 0] rfl)
set_option maxHeartbeats 4000000 in
set_option maxRecDepth 100000 in
theorem c_Mo_number {h le nr tl ne nf na an tm cn cs bd lt nt wh : Nat} {bp fx fy : Int32} {lm : Nat → Nat} {t : List Nat} {a b ls0 : Nat} (eh : M h = some (moO h (nI le) bp (nI nr) (nI wh) (nI tl) (nI ne) (nI nf) (nI na) (nI an) (nI tm) (nI cn) (nI cs) (nI bd) (nI lt) (nI nt) fx fy)) (m1 : M (h + 1) = some (.inl (ca 0, 40, .inl (iN lm)))) (hlm : txM lm t) (htl : t.length ≤ 40) (hc8 : ∀ i, i < t.length → t.getD i 32 < 256) (hab : a ≤ b ∧ b ≤ t.length) (hls : ls0 ≤ 255) : gC l D ca A G y_Mo_number (.code y_Mo_number b_Mo_number 5 (some .boolean)) ({ frames := 1, cells := 0, slots := 0, locals := 26 }) N M [.ref h, .int (nI a), .int (nI b), .int (nI ls0)] gm_i (fun (r : Int32) (N1 : Nat) (M1 : gm_M) => N = N1 ∧ (((nmB t a b ls0 = true) ∧ M = M1 ∧ nI 1 = r) ∨ ((nmB t a b ls0 = false) ∧ M = M1 ∧ nI 0 = r))) := by
  refine gm_body (by decide) (Nat.le_of_ble_eq_true rfl) (fun p e s m below meth c ls hx hb hr hts hown hlk hml hnm hP hK hN hX hS hl => ?_)
  have htl : ∀ w ∈ LW, w.before _ s = true := fun w h => hts w (List.mem_cons_of_mem _ h)
  have hown : s.vm.findClass "PacketGateModel" = some m.cls := hown
  have hl : lv_has ls 5 [(0, .ref h), (1, .int (nI a)), (2, .int (nI b)), (3, .int (nI ls0))] := hl
  generalize hQ : MQ below _ _ s _ _ A = Q
  refine lv_iload_n hx hb d_Mo_number_0 rfl (lv_at hl 2 rfl) ?_
  refine lv_iload_n hx hb d_Mo_number_1 rfl (lv_at hl 1 rfl) ?_
  refine lv_isub hx hb d_Mo_number_2 ?_
  rw [show (nI b) - (nI a) = nI (b - a) from pk_sub (by omega)]
  refine lv_iconst (v := nI 3) hx hb d_Mo_number_3 (by decide) ?_
  refine ln_le (tgt := 9) hx hb d_Mo_number_4 (by decide) (by omega) (by omega) (fun c_1 => ?_) (fun c_1 => ?_)
  · skip
    refine lv_iload_n hx hb d_Mo_number_9 rfl (lv_at hl 1 rfl) ?_
    refine lv_istore (lv' := [(4, .int (nI a)), (0, .ref h), (1, .int (nI a)), (2, .int (nI b)), (3, .int (nI ls0))]) hx hb d_Mo_number_10 hl (by decide) rfl (fun ls hl => ?_)
    have loop_12 : ∀ (fu : Nat) (i : Nat) (ls : Array Slot) (H : Heap) (locs : List Loc), (a ≤ i ∧ i ≤ b) → (∀ j, a ≤ j → j < i → dgt t j) → (b - i) < fu → gm_P D cls A N M H → va_S A s.heap H locs → lv_has ls 5 [(0, .ref h), (1, .int (nI a)), (2, .int (nI b)), (3, .int (nI ls0)), (4, .int (nI i))] → W p l e ({ frames := 1, cells := 0, slots := 0, locals := 26 }) s m ([.ref h, .int (nI a), .int (nI b), .int (nI ls0)] : List Value).toArray below meth c H locs (0) (0) Q (F0 m 12 ls []) := by
      intro fu
      induction fu with
      | zero => intro i ls H locs hi hdv hk; exact absurd hk (Nat.not_lt_zero _)
      | succ fu ih_12 =>
        intro i ls H locs hi hdv hk hP hS hl
        refine lv_iload hx hb d_Mo_number_12 (lv_at hl 4 rfl) ?_
        refine lv_iload_n hx hb d_Mo_number_14 rfl (lv_at hl 2 rfl) ?_
        refine ln_ge (tgt := 50) hx hb d_Mo_number_15 (by decide) (by omega) (by omega) (fun c_2 => ?_) (fun c_2 => ?_)
        · skip
          have hwl := wth_lt (t := t) (a := a) (b - a) (by omega) (fun j p q => hdv j p (by omega))
          have hwl3 : p10 (b - a) ≤ 1000 := by rcases (show b - a = 0 ∨ b - a = 1 ∨ b - a = 2 ∨ b - a = 3 by omega) with z | z | z | z <;> rw [z] <;> decide
          refine lv_aload_n hx hb d_Mo_number_50 rfl (lv_at hl 0 rfl) ?_
          refine lv_iload_n hx hb d_Mo_number_51 rfl (lv_at hl 1 rfl) ?_
          refine lv_iload_n hx hb d_Mo_number_52 rfl (lv_at hl 2 rfl) ?_
          refine gc_V (q := (R_Mo, F_Mo, 44)) (n := 2) [.int (nI a), .int (nI b)] [] hx hb hml hown hts hK hN hX hP hS (c_Mo_worth (t := t) eh m1 hlm (by omega) hc8 (by omega) (fun j p q => hdv j p (by omega))) rfl eh k_896 k_898 ks_Mo_worth k_10 k_899 (by decide +kernel) ⟨by decide, by decide⟩ rfl hl.1 rfl (Nat.le_of_ble_eq_true rfl) d_Mo_number_53 ⟨by decide, by decide⟩ (fun r N1 M_3 H locs hw hP hS => ?_)
          obtain ⟨rfl, hw⟩ := hw
          obtain ⟨rfl, rfl⟩ := hw
          refine W.eq (g2 := F0 m 56 ls [.int (nI (wth t a (b - a)))]) rfl ?_
          refine lv_iload_n hx hb d_Mo_number_56 rfl (lv_at hl 2 rfl) ?_
          refine lv_iload_n hx hb d_Mo_number_57 rfl (lv_at hl 1 rfl) ?_
          refine lv_isub hx hb d_Mo_number_58 ?_
          rw [show (nI b) - (nI a) = nI (b - a) from pk_sub (by omega)]
          refine lv_iload_n hx hb d_Mo_number_59 rfl (lv_at hl 3 rfl) ?_
          refine gc_S (n := 3) [.int (nI (wth t a (b - a))), .int (nI (b - a)), .int (nI ls0)] [] hx hb hml hown hts hK hN hX hP hS (c_Mo_canReach (by omega) (by omega) (by omega)) k_900 k_901 k_10 k_902 (by decide +kernel) ⟨by decide, by decide⟩ rfl hl.1 rfl (Nat.le_of_ble_eq_true rfl) d_Mo_number_60 ⟨by decide, by decide⟩ (fun r N1 M_4 H locs hw hP hS => ?_)
          obtain ⟨rfl, hw⟩ := hw
          rcases hw with ⟨c_5, rfl, rfl⟩ | ⟨c_6, rfl, rfl⟩
          · skip
            refine W.eq (g2 := F0 m 63 ls [.int (nI 1)]) rfl ?_
            rw [← hQ]
            exact gc_zret hx hb hr hlk hP hS d_Mo_number_63 rfl ⟨rfl, Or.inl ⟨nmB_iff.mpr ⟨by omega, fun j p q => hdv j p (by omega), c_5⟩, rfl, rfl⟩⟩
          · skip
            refine W.eq (g2 := F0 m 63 ls [.int (nI 0)]) rfl ?_
            rw [← hQ]
            exact gc_zret hx hb hr hlk hP hS d_Mo_number_63 rfl ⟨rfl, Or.inr ⟨nmB_f (fun q => by have := q.2.2; rw [c_6] at this; cases this), rfl, rfl⟩⟩
        · skip
          refine lv_aload_n hx hb d_Mo_number_18 rfl (lv_at hl 0 rfl) ?_
          refine gm_get (C := R_Mo) (T := F_Mo) (n := 44) hx hb htl i_Mo hown hK hP eh rfl 0 (by decide) (htl _ k_743) (fun _ h => h) rfl d_Mo_number_19 ?_
          refine lv_iload hx hb d_Mo_number_22 (lv_at hl 4 rfl) ?_
          refine gz_iald hx hb hK hP 0 m1 rfl (by omega) (by omega) d_Mo_number_24 ?_
          rw [show lm i = t.getD i 32 from txM_32 hlm (by omega)]
          have b_7 := hc8 i (by omega)
          refine lv_bipush (v := nI 48) hx hb d_Mo_number_25 (by decide) ?_
          refine ln_lt (tgt := 42) hx hb d_Mo_number_27 (by decide) (by omega) (by omega) (fun c_8 => ?_) (fun c_8 => ?_)
          · skip
            refine lv_iconst (v := nI 0) hx hb d_Mo_number_42 (by decide) ?_
            rw [← hQ]
            exact gc_zret hx hb hr hlk hP hS d_Mo_number_43 rfl ⟨rfl, Or.inr ⟨nmB_f (fun q => by have := q.2.1 i (by omega) (by omega); unfold dgt at this; omega), rfl, rfl⟩⟩
          · skip
            refine lv_aload_n hx hb d_Mo_number_30 rfl (lv_at hl 0 rfl) ?_
            refine gm_get (C := R_Mo) (T := F_Mo) (n := 44) hx hb htl i_Mo hown hK hP eh rfl 0 (by decide) (htl _ k_743) (fun _ h => h) rfl d_Mo_number_31 ?_
            refine lv_iload hx hb d_Mo_number_34 (lv_at hl 4 rfl) ?_
            refine gz_iald hx hb hK hP 0 m1 rfl (by omega) (by omega) d_Mo_number_36 ?_
            rw [show lm i = t.getD i 32 from txM_32 hlm (by omega)]
            have b_9 := hc8 i (by omega)
            refine lv_bipush (v := nI 57) hx hb d_Mo_number_37 (by decide) ?_
            refine ln_le (tgt := 44) hx hb d_Mo_number_39 (by decide) (by omega) (by omega) (fun c_10 => ?_) (fun c_10 => ?_)
            · skip
              refine lv_iinc (v := nI (i + 1)) (lv' := [(4, .int (nI (i + 1))), (0, .ref h), (1, .int (nI a)), (2, .int (nI b)), (3, .int (nI ls0))]) hx hb d_Mo_number_44 hl (k := 4) rfl (nI_1 i) (by decide) rfl (fun ls hl => ?_)
              refine lv_goto (tgt := 12) hx hb d_Mo_number_47 (by decide) ?_
              exact ih_12 (i + 1) ls _ _ (by omega) (fun j p q => by by_cases z : j = i; subst z; exact ⟨by omega, by omega⟩; exact hdv j p (by omega)) (by omega) hP hS (lv_sub hl [1, 2, 3, 4, 0] rfl)
            · skip
              refine lv_iconst (v := nI 0) hx hb d_Mo_number_42 (by decide) ?_
              rw [← hQ]
              exact gc_zret hx hb hr hlk hP hS d_Mo_number_43 rfl ⟨rfl, Or.inr ⟨nmB_f (fun q => by have := q.2.1 i (by omega) (by omega); unfold dgt at this; omega), rfl, rfl⟩⟩
    exact loop_12 (_ + 1) a ls _ _ (by omega) (fun j p q => absurd q (by omega)) (Nat.lt_succ_self _) hP hS (lv_sub hl [1, 2, 3, 4, 0] rfl)
  · skip
    refine lv_iconst (v := nI 0) hx hb d_Mo_number_7 (by decide) ?_
    rw [← hQ]
    exact gc_zret hx hb hr hlk hP hS d_Mo_number_8 rfl ⟨rfl, Or.inr ⟨nmB_f (fun q => by have := q.1; omega), rfl, rfl⟩⟩
end C33
