section C18
variable {l : Launch} {D : va_G} {ca : Nat → ClassId} {A : Nat → Prop} {G : gG} {N : Nat} {M : gm_M}

/-- the greatest number up to 255 that v, of d digits, or v and more digits, can come to -/
def gF (v d : Nat) : Nat := if d = 3 then v else if d = 2 then (if v * 10 ≤ 255 then (if v * 10 + 9 ≤ 255 then v * 10 + 9 else 255) else v) else if v * 10 * 10 ≤ 255 then (if (v * 10 + 9) * 10 + 9 ≤ 255 then (v * 10 + 9) * 10 + 9 else 255) else (if v * 10 ≤ 255 then (if v * 10 + 9 ≤ 255 then v * 10 + 9 else 255) else v)
/-- reading a number of at least ls from place p on: nu and dg are what was read; the number or none, and the place behind or bad -/
def rn (t : List Nat) (ls : Nat) : Nat → Nat → Nat → Nat → Option Nat × Nat
  | 0, p, _, _ => (none, p)
  | f + 1, p, nu, dg => if p < t.length ∧ 48 ≤ t.getD p 32 ∧ t.getD p 32 ≤ 57 then (if 3 < dg + 1 ∨ 255 < nu * 10 + (t.getD p 32 - 48) ∨ gF (nu * 10 + (t.getD p 32 - 48)) (dg + 1) < ls then (none, p) else rn t ls f (p + 1) (nu * 10 + (t.getD p 32 - 48)) (dg + 1)) else (if 0 < dg ∧ ls ≤ nu then some nu else none, p)
theorem rn_s (t : List Nat) (ls f p nu dg : Nat) : rn t ls (f + 1) p nu dg = if p < t.length ∧ 48 ≤ t.getD p 32 ∧ t.getD p 32 ≤ 57 then (if 3 < dg + 1 ∨ 255 < nu * 10 + (t.getD p 32 - 48) ∨ gF (nu * 10 + (t.getD p 32 - 48)) (dg + 1) < ls then (none, p) else rn t ls f (p + 1) (nu * 10 + (t.getD p 32 - 48)) (dg + 1)) else (if 0 < dg ∧ ls ≤ nu then some nu else none, p) := rfl
/-- reading a range -/
def rrg (t : List Nat) (p : Nat) : Option (Nat × Nat) × Nat := if t.getD p 32 = 42 then (some (0, 255), p + 1) else match rn t 0 4 p 0 0 with
  | (none, p1) => (none, p1)
  | (some a, p1) => if t.getD p1 32 = 45 then (match rn t a 4 (p1 + 1) 0 0 with
    | (none, p2) => (none, p2)
    | (some b, p2) => (some (a, b), p2)) else (some (a, a), p1)
theorem rrg_star {t : List Nat} {p : Nat} (h : t.getD p 32 = 42) : rrg t p = (some (0, 255), p + 1) := by unfold rrg; rw [if_pos h]
theorem rrg_n0 {t : List Nat} {p p1 : Nat} (h : ¬ t.getD p 32 = 42) (h1 : rn t 0 4 p 0 0 = (none, p1)) : rrg t p = (none, p1) := by unfold rrg; rw [if_neg h, h1]
theorem rrg_one {t : List Nat} {p p1 a : Nat} (h : ¬ t.getD p 32 = 42) (h1 : rn t 0 4 p 0 0 = (some a, p1)) (h2 : ¬ t.getD p1 32 = 45) : rrg t p = (some (a, a), p1) := by
  unfold rrg; rw [if_neg h, h1]; show (if t.getD p1 32 = 45 then _ else _) = _; rw [if_neg h2]
theorem rrg_n1 {t : List Nat} {p p1 p2 a : Nat} (h : ¬ t.getD p 32 = 42) (h1 : rn t 0 4 p 0 0 = (some a, p1)) (h2 : t.getD p1 32 = 45) (h3 : rn t a 4 (p1 + 1) 0 0 = (none, p2)) : rrg t p = (none, p2) := by
  unfold rrg; rw [if_neg h, h1]; show (if t.getD p1 32 = 45 then _ else _) = _; rw [if_pos h2, h3]
theorem rrg_two {t : List Nat} {p p1 p2 a b : Nat} (h : ¬ t.getD p 32 = 42) (h1 : rn t 0 4 p 0 0 = (some a, p1)) (h2 : t.getD p1 32 = 45) (h3 : rn t a 4 (p1 + 1) 0 0 = (some b, p2)) : rrg t p = (some (a, b), p2) := by
  unfold rrg; rw [if_neg h, h1]; show (if t.getD p1 32 = 45 then _ else _) = _; rw [if_pos h2, h3]
/-- the place of a letter in a text -/
def lixR (j c : Nat) : Nat → Nat → Option Nat
  | 0, _ => none
  | r + 1, k => if tc j k = c then some k else lixR j c r (k + 1)
def lix (j c : Nat) : Option Nat := lixR j c (tx_l.getD j 0) 0
theorem lixR_none {j c : Nat} : ∀ (r k : Nat), (∀ i, k ≤ i → i < k + r → tc j i ≠ c) → lixR j c r k = none
  | 0, _, _ => rfl
  | r + 1, k, h => by rw [lixR, if_neg (h k (Nat.le_refl _) (by omega))]; exact lixR_none r (k + 1) (fun i a b => h i (by omega) (by omega))
theorem lixR_some {j c m : Nat} (hm : tc j m = c) : ∀ (r k : Nat), k ≤ m → m < k + r → (∀ i, k ≤ i → i < m → tc j i ≠ c) → lixR j c r k = some m
  | 0, k, h1, h2, _ => absurd h2 (by omega)
  | r + 1, k, h1, h2, h => by
    by_cases q : k = m
    · subst q; rw [lixR, if_pos hm]
    · rw [lixR, if_neg (h k (Nat.le_refl _) (by omega))]; exact lixR_some hm r (k + 1) (by omega) (by omega) (fun i a b => h i (by omega) b)
theorem lix_none {j c : Nat} (h : ∀ i, i < tx_l.getD j 0 → tc j i ≠ c) : lix j c = none := lixR_none _ 0 (fun i _ b => h i (by omega))
theorem lix_some {j c k : Nat} (h0 : k < tx_l.getD j 0) (h1 : tc j k = c) (h2 : ∀ i, i < k → tc j i ≠ c) : lix j c = some k := lixR_some h1 _ 0 (Nat.zero_le _) (by omega) (fun i _ b => h2 i b)
/-- a line read: the rule's nine numbers or none; the place behind, or bad -/
def prs (t : List Nat) : Option (List Nat) × Nat := match lix 1 (t.getD 0 32) with
  | none => (none, 0)
  | some k0 => match lix 2 (t.getD 1 32) with
  | none => (none, 1)
  | some k1 => match lix 3 (t.getD 2 32) with
  | none => (none, 2)
  | some k2 => match rrg t 3 with
  | (none, p) => (none, p)
  | (some (a1, b1), p1) => if ¬ t.getD p1 32 = 44 then (none, p1) else match rrg t (p1 + 1) with
  | (none, p) => (none, p)
  | (some (a2, b2), p2) => if ¬ t.getD p2 32 = 44 then (none, p2) else match rrg t (p2 + 1) with
  | (none, p) => (none, p)
  | (some (a3, b3), p3) => if ¬ p3 = t.length then (none, p3) else (some [k0, k1, k2, a1, a2, a3, b1, b2, b3], p3)
theorem va_up_le {f : Nat → Nat} {k v : Nat} (h : ∀ q, f q ≤ 255) (hv : v ≤ 255) : ∀ q, va_up f k v q ≤ 255 := fun q => by
  by_cases z : q = k
  · subst z; rw [va_up_self]; exact hv
  · rw [va_up_ne _ _ z]; exact h q
theorem tx_l4 (j : Nat) : tx_l.getD j 0 ≤ 22 := by
  rcases Nat.lt_or_ge j 4 with h | h
  · exact (by decide : ∀ j, j < 4 → tx_l.getD j 0 ≤ 22) j h
  · have e : tx_l.getD j 0 = 0 := by simp [tx_l, List.getD, List.getElem?_eq_none (show [22, 3, 3, 4].length ≤ j from h)]
    omega
set_option maxHeartbeats 4000000 in
set_option maxRecDepth 100000 in
theorem c_Rr_isDigit (ch : Nat) (hc : ch < 65536) : gC l D ca A G y_Rr_isDigit (.code y_Rr_isDigit b_Rr_isDigit 1 (some .boolean)) ({ frames := 0, cells := 0, slots := 0, locals := 0 }) N M [.int (nI ch)] gm_i (fun (r : Int32) (N1 : Nat) (M1 : gm_M) => N = N1 ∧ (((48 ≤ ch ∧ ch ≤ 57) ∧ M = M1 ∧ nI 1 = r) ∨ ((¬ (48 ≤ ch ∧ ch ≤ 57)) ∧ M = M1 ∧ nI 0 = r))) := by
  refine gm_body (by decide) (Nat.le_of_ble_eq_true rfl) (fun p e s m below meth c ls hx hb hr hts hown hlk hml hnm hP hK hN hX hS hl => ?_)
  have htl : ∀ w ∈ LW, w.before _ s = true := fun w h => hts w (List.mem_cons_of_mem _ h)
  have hown : s.vm.findClass "PacketGate$RuleReader" = some m.cls := hown
  have hl : lv_has ls 1 [(0, .int (nI ch))] := hl
  refine lv_iload_n hx hb d_Rr_isDigit_0 rfl (lv_at hl 0 rfl) ?_
  refine lv_bipush (v := nI 48) hx hb d_Rr_isDigit_1 (by decide) ?_
  refine ln_lt (tgt := 16) hx hb d_Rr_isDigit_3 (by decide) (by omega) (by omega) (fun c_1 => ?_) (fun c_1 => ?_)
  · skip
    refine lv_iconst (v := nI 0) hx hb d_Rr_isDigit_16 (by decide) ?_
    exact gc_zret hx hb hr hlk hP hS d_Rr_isDigit_17 rfl (by first | exact ⟨rfl, Or.inl ⟨(by first | assumption | omega), rfl, rfl⟩⟩ | exact ⟨rfl, Or.inr ⟨(by first | assumption | omega), rfl, rfl⟩⟩)
  · skip
    refine lv_iload_n hx hb d_Rr_isDigit_6 rfl (lv_at hl 0 rfl) ?_
    refine lv_bipush (v := nI 57) hx hb d_Rr_isDigit_7 (by decide) ?_
    refine ln_gt (tgt := 16) hx hb d_Rr_isDigit_9 (by decide) (by omega) (by omega) (fun c_2 => ?_) (fun c_2 => ?_)
    · skip
      refine lv_iconst (v := nI 0) hx hb d_Rr_isDigit_16 (by decide) ?_
      exact gc_zret hx hb hr hlk hP hS d_Rr_isDigit_17 rfl (by first | exact ⟨rfl, Or.inl ⟨(by first | assumption | omega), rfl, rfl⟩⟩ | exact ⟨rfl, Or.inr ⟨(by first | assumption | omega), rfl, rfl⟩⟩)
    · skip
      refine lv_iconst (v := nI 1) hx hb d_Rr_isDigit_12 (by decide) ?_
      refine lv_goto (tgt := 17) hx hb d_Rr_isDigit_13 (by decide) ?_
      exact gc_zret hx hb hr hlk hP hS d_Rr_isDigit_17 rfl (by first | exact ⟨rfl, Or.inl ⟨(by first | assumption | omega), rfl, rfl⟩⟩ | exact ⟨rfl, Or.inr ⟨(by first | assumption | omega), rfl, rfl⟩⟩)
set_option maxHeartbeats 4000000 in
set_option maxRecDepth 100000 in
theorem c_Rr_greatestFrom (v d : Nat) (hv : v ≤ 255) (hd : 1 ≤ d ∧ d ≤ 3) : gC l D ca A G y_Rr_greatestFrom (.code y_Rr_greatestFrom b_Rr_greatestFrom 6 (some .int)) ({ frames := 1, cells := 0, slots := 0, locals := 21 }) N M [.int (nI v), .int (nI d)] gm_i (fun (r : Int32) (N1 : Nat) (M1 : gm_M) => N = N1 ∧ (gF v d < 65536) ∧ M = M1 ∧ nI (gF v d) = r) := by
  refine gm_body (by decide) (Nat.le_of_ble_eq_true rfl) (fun p e s m below meth c ls hx hb hr hts hown hlk hml hnm hP hK hN hX hS hl => ?_)
  have htl : ∀ w ∈ LW, w.before _ s = true := fun w h => hts w (List.mem_cons_of_mem _ h)
  have hown : s.vm.findClass "PacketGate$RuleReader" = some m.cls := hown
  have hl : lv_has ls 6 [(0, .int (nI v)), (1, .int (nI d))] := hl
  rcases (show d = 1 ∨ d = 2 ∨ d = 3 by omega) with rfl | rfl | rfl
  · skip
    refine lv_iload_n hx hb d_Rr_greatestFrom_0 rfl (lv_at hl 0 rfl) ?_
    refine lv_istore_n (lv' := [(2, .int (nI v)), (0, .int (nI v)), (1, .int (nI 1))]) hx hb d_Rr_greatestFrom_1 rfl hl (by decide) rfl (fun ls hl => ?_)
    refine lv_iload_n hx hb d_Rr_greatestFrom_2 rfl (lv_at hl 1 rfl) ?_
    refine lv_istore_n (lv' := [(3, .int (nI v)), (2, .int (nI v)), (0, .int (nI v)), (1, .int (nI 1))]) hx hb d_Rr_greatestFrom_3 rfl hl (by decide) rfl (fun ls hl => ?_)
    refine lv_iload_n hx hb d_Rr_greatestFrom_4 rfl (lv_at hl 2 rfl) ?_
    refine lv_istore (lv' := [(4, .int (nI v)), (3, .int (nI v)), (2, .int (nI v)), (0, .int (nI v)), (1, .int (nI 1))]) hx hb d_Rr_greatestFrom_5 hl (by decide) rfl (fun ls hl => ?_)
    refine lv_iload_n hx hb d_Rr_greatestFrom_7 rfl (lv_at hl 4 rfl) ?_
    refine lv_istore (lv' := [(5, .int (nI 1)), (4, .int (nI v)), (3, .int (nI v)), (2, .int (nI v)), (0, .int (nI v)), (1, .int (nI 1))]) hx hb d_Rr_greatestFrom_8 hl (by decide) rfl (fun ls hl => ?_)
    refine lv_iload hx hb d_Rr_greatestFrom_10 (lv_at hl 0 rfl) ?_
    refine lv_iconst (v := nI 3) hx hb d_Rr_greatestFrom_12 (by decide) ?_
    refine lv_icmp_ge (tgt := 53) hx hb d_Rr_greatestFrom_13 (by decide) (fun q => absurd q (by decide)) (fun _ => ?_)
    refine lv_iload_n hx hb d_Rr_greatestFrom_16 rfl (lv_at hl 2 rfl) ?_
    refine lv_bipush (v := nI 10) hx hb d_Rr_greatestFrom_17 (by decide) ?_
    refine lv_imul hx hb d_Rr_greatestFrom_19 ?_
    rw [show (nI v) * (nI 10) = nI (v * 10) from pk_mul _ _]
    refine lv_istore_n (lv' := [(3, .int (nI (v * 10))), (5, .int (nI 1)), (4, .int (nI v)), (2, .int (nI v)), (0, .int (nI v)), (1, .int (nI 1))]) hx hb d_Rr_greatestFrom_20 rfl hl (by decide) rfl (fun ls hl => ?_)
    refine lv_iload hx hb d_Rr_greatestFrom_21 (lv_at hl 2 rfl) ?_
    refine lv_bipush (v := nI 10) hx hb d_Rr_greatestFrom_23 (by decide) ?_
    refine lv_imul hx hb d_Rr_greatestFrom_25 ?_
    rw [show (nI v) * (nI 10) = nI (v * 10) from pk_mul _ _]
    refine lv_bipush (v := nI 9) hx hb d_Rr_greatestFrom_26 (by decide) ?_
    refine lv_iadd hx hb d_Rr_greatestFrom_28 ?_
    rw [show (nI (v * 10)) + (nI 9) = nI ((v * 10) + 9) from nI_add _ _]
    refine lv_istore (lv' := [(4, .int (nI ((v * 10) + 9))), (3, .int (nI (v * 10))), (5, .int (nI 1)), (2, .int (nI v)), (0, .int (nI v)), (1, .int (nI 1))]) hx hb d_Rr_greatestFrom_29 hl (by decide) rfl (fun ls hl => ?_)
    refine lv_iload_n hx hb d_Rr_greatestFrom_31 rfl (lv_at hl 1 rfl) ?_
    refine lv_sipush (v := nI 255) hx hb d_Rr_greatestFrom_32 (by decide) ?_
    refine ln_gt (tgt := 47) hx hb d_Rr_greatestFrom_35 (by decide) (by omega) (by omega) (fun c_1 => ?_) (fun c_1 => ?_)
    · skip
      refine lv_iinc (v := nI 2) (lv' := [(5, .int (nI 2)), (4, .int (nI ((v * 10) + 9))), (3, .int (nI (v * 10))), (2, .int (nI v)), (0, .int (nI v)), (1, .int (nI 1))]) hx hb d_Rr_greatestFrom_47 hl (k := 2) rfl (by decide) (by decide) rfl (fun ls hl => ?_)
      refine lv_goto (tgt := 10) hx hb d_Rr_greatestFrom_50 (by decide) ?_
      refine lv_iload hx hb d_Rr_greatestFrom_10 (lv_at hl 0 rfl) ?_
      refine lv_iconst (v := nI 3) hx hb d_Rr_greatestFrom_12 (by decide) ?_
      refine lv_icmp_ge (tgt := 53) hx hb d_Rr_greatestFrom_13 (by decide) (fun q => absurd q (by decide)) (fun _ => ?_)
      refine lv_iload_n hx hb d_Rr_greatestFrom_16 rfl (lv_at hl 2 rfl) ?_
      refine lv_bipush (v := nI 10) hx hb d_Rr_greatestFrom_17 (by decide) ?_
      refine lv_imul hx hb d_Rr_greatestFrom_19 ?_
      rw [show (nI (v * 10)) * (nI 10) = nI ((v * 10) * 10) from pk_mul _ _]
      refine lv_istore_n (lv' := [(3, .int (nI ((v * 10) * 10))), (5, .int (nI 2)), (4, .int (nI ((v * 10) + 9))), (2, .int (nI v)), (0, .int (nI v)), (1, .int (nI 1))]) hx hb d_Rr_greatestFrom_20 rfl hl (by decide) rfl (fun ls hl => ?_)
      refine lv_iload hx hb d_Rr_greatestFrom_21 (lv_at hl 2 rfl) ?_
      refine lv_bipush (v := nI 10) hx hb d_Rr_greatestFrom_23 (by decide) ?_
      refine lv_imul hx hb d_Rr_greatestFrom_25 ?_
      rw [show (nI ((v * 10) + 9)) * (nI 10) = nI (((v * 10) + 9) * 10) from pk_mul _ _]
      refine lv_bipush (v := nI 9) hx hb d_Rr_greatestFrom_26 (by decide) ?_
      refine lv_iadd hx hb d_Rr_greatestFrom_28 ?_
      rw [show (nI (((v * 10) + 9) * 10)) + (nI 9) = nI ((((v * 10) + 9) * 10) + 9) from nI_add _ _]
      refine lv_istore (lv' := [(4, .int (nI ((((v * 10) + 9) * 10) + 9))), (3, .int (nI ((v * 10) * 10))), (5, .int (nI 2)), (2, .int (nI v)), (0, .int (nI v)), (1, .int (nI 1))]) hx hb d_Rr_greatestFrom_29 hl (by decide) rfl (fun ls hl => ?_)
      refine lv_iload_n hx hb d_Rr_greatestFrom_31 rfl (lv_at hl 1 rfl) ?_
      refine lv_sipush (v := nI 255) hx hb d_Rr_greatestFrom_32 (by decide) ?_
      refine ln_gt (tgt := 47) hx hb d_Rr_greatestFrom_35 (by decide) (by omega) (by omega) (fun c_2 => ?_) (fun c_2 => ?_)
      · skip
        refine lv_iinc (v := nI 3) (lv' := [(5, .int (nI 3)), (4, .int (nI ((((v * 10) + 9) * 10) + 9))), (3, .int (nI ((v * 10) * 10))), (2, .int (nI v)), (0, .int (nI v)), (1, .int (nI 1))]) hx hb d_Rr_greatestFrom_47 hl (k := 2) rfl (by decide) (by decide) rfl (fun ls hl => ?_)
        refine lv_goto (tgt := 10) hx hb d_Rr_greatestFrom_50 (by decide) ?_
        refine lv_iload hx hb d_Rr_greatestFrom_10 (lv_at hl 0 rfl) ?_
        refine lv_iconst (v := nI 3) hx hb d_Rr_greatestFrom_12 (by decide) ?_
        refine lv_icmp_ge (tgt := 53) hx hb d_Rr_greatestFrom_13 (by decide) (fun _ => ?_) (fun q => absurd q (by decide))
        refine lv_iload_n hx hb d_Rr_greatestFrom_53 rfl (lv_at hl 3 rfl) ?_
        exact gc_iret hx hb hr hlk hP hS d_Rr_greatestFrom_54 ⟨rfl, (by unfold gF; (repeat (first | rw [if_pos (by omega)] | rw [if_neg (by omega)])) <;> omega), rfl, (congrArg nI (by first | (exfalso; omega) | (unfold gF; (repeat (first | rw [if_pos (by omega)] | rw [if_neg (by omega)])))))⟩
      · skip
        refine lv_iload hx hb d_Rr_greatestFrom_38 (lv_at hl 0 rfl) ?_
        refine lv_sipush (v := nI 255) hx hb d_Rr_greatestFrom_40 (by decide) ?_
        refine gn_min hx hb (by rw [hml]; exact hl.1.symm) hown htl k_408 k_286 k_13 k_287 (by decide) (Nat.le_of_ble_eq_true rfl) (by decide) (by decide) (by omega) (by omega) d_Rr_greatestFrom_43 (fun c_3 => ?_) (fun c_3 => ?_)
        · skip
          refine lv_istore_n (lv' := [(2, .int (nI ((((v * 10) + 9) * 10) + 9))), (4, .int (nI ((((v * 10) + 9) * 10) + 9))), (3, .int (nI ((v * 10) * 10))), (5, .int (nI 2)), (0, .int (nI v)), (1, .int (nI 1))]) hx hb d_Rr_greatestFrom_46 rfl hl (by decide) rfl (fun ls hl => ?_)
          refine lv_iinc (v := nI 3) (lv' := [(5, .int (nI 3)), (2, .int (nI ((((v * 10) + 9) * 10) + 9))), (4, .int (nI ((((v * 10) + 9) * 10) + 9))), (3, .int (nI ((v * 10) * 10))), (0, .int (nI v)), (1, .int (nI 1))]) hx hb d_Rr_greatestFrom_47 hl (k := 3) rfl (by decide) (by decide) rfl (fun ls hl => ?_)
          refine lv_goto (tgt := 10) hx hb d_Rr_greatestFrom_50 (by decide) ?_
          refine lv_iload hx hb d_Rr_greatestFrom_10 (lv_at hl 0 rfl) ?_
          refine lv_iconst (v := nI 3) hx hb d_Rr_greatestFrom_12 (by decide) ?_
          refine lv_icmp_ge (tgt := 53) hx hb d_Rr_greatestFrom_13 (by decide) (fun _ => ?_) (fun q => absurd q (by decide))
          refine lv_iload_n hx hb d_Rr_greatestFrom_53 rfl (lv_at hl 1 rfl) ?_
          exact gc_iret hx hb hr hlk hP hS d_Rr_greatestFrom_54 ⟨rfl, (by unfold gF; (repeat (first | rw [if_pos (by omega)] | rw [if_neg (by omega)])) <;> omega), rfl, (congrArg nI (by first | (exfalso; omega) | (unfold gF; (repeat (first | rw [if_pos (by omega)] | rw [if_neg (by omega)])))))⟩
        · skip
          refine lv_istore_n (lv' := [(2, .int (nI 255)), (4, .int (nI ((((v * 10) + 9) * 10) + 9))), (3, .int (nI ((v * 10) * 10))), (5, .int (nI 2)), (0, .int (nI v)), (1, .int (nI 1))]) hx hb d_Rr_greatestFrom_46 rfl hl (by decide) rfl (fun ls hl => ?_)
          refine lv_iinc (v := nI 3) (lv' := [(5, .int (nI 3)), (2, .int (nI 255)), (4, .int (nI ((((v * 10) + 9) * 10) + 9))), (3, .int (nI ((v * 10) * 10))), (0, .int (nI v)), (1, .int (nI 1))]) hx hb d_Rr_greatestFrom_47 hl (k := 3) rfl (by decide) (by decide) rfl (fun ls hl => ?_)
          refine lv_goto (tgt := 10) hx hb d_Rr_greatestFrom_50 (by decide) ?_
          refine lv_iload hx hb d_Rr_greatestFrom_10 (lv_at hl 0 rfl) ?_
          refine lv_iconst (v := nI 3) hx hb d_Rr_greatestFrom_12 (by decide) ?_
          refine lv_icmp_ge (tgt := 53) hx hb d_Rr_greatestFrom_13 (by decide) (fun _ => ?_) (fun q => absurd q (by decide))
          refine lv_iload_n hx hb d_Rr_greatestFrom_53 rfl (lv_at hl 1 rfl) ?_
          exact gc_iret hx hb hr hlk hP hS d_Rr_greatestFrom_54 ⟨rfl, (by unfold gF; (repeat (first | rw [if_pos (by omega)] | rw [if_neg (by omega)])) <;> omega), rfl, (congrArg nI (by first | (exfalso; omega) | (unfold gF; (repeat (first | rw [if_pos (by omega)] | rw [if_neg (by omega)])))))⟩
    · skip
      refine lv_iload hx hb d_Rr_greatestFrom_38 (lv_at hl 0 rfl) ?_
      refine lv_sipush (v := nI 255) hx hb d_Rr_greatestFrom_40 (by decide) ?_
      refine gn_min hx hb (by rw [hml]; exact hl.1.symm) hown htl k_408 k_286 k_13 k_287 (by decide) (Nat.le_of_ble_eq_true rfl) (by decide) (by decide) (by omega) (by omega) d_Rr_greatestFrom_43 (fun c_4 => ?_) (fun c_4 => ?_)
      · skip
        refine lv_istore_n (lv' := [(2, .int (nI ((v * 10) + 9))), (4, .int (nI ((v * 10) + 9))), (3, .int (nI (v * 10))), (5, .int (nI 1)), (0, .int (nI v)), (1, .int (nI 1))]) hx hb d_Rr_greatestFrom_46 rfl hl (by decide) rfl (fun ls hl => ?_)
        refine lv_iinc (v := nI 2) (lv' := [(5, .int (nI 2)), (2, .int (nI ((v * 10) + 9))), (4, .int (nI ((v * 10) + 9))), (3, .int (nI (v * 10))), (0, .int (nI v)), (1, .int (nI 1))]) hx hb d_Rr_greatestFrom_47 hl (k := 3) rfl (by decide) (by decide) rfl (fun ls hl => ?_)
        refine lv_goto (tgt := 10) hx hb d_Rr_greatestFrom_50 (by decide) ?_
        refine lv_iload hx hb d_Rr_greatestFrom_10 (lv_at hl 0 rfl) ?_
        refine lv_iconst (v := nI 3) hx hb d_Rr_greatestFrom_12 (by decide) ?_
        refine lv_icmp_ge (tgt := 53) hx hb d_Rr_greatestFrom_13 (by decide) (fun q => absurd q (by decide)) (fun _ => ?_)
        refine lv_iload_n hx hb d_Rr_greatestFrom_16 rfl (lv_at hl 3 rfl) ?_
        refine lv_bipush (v := nI 10) hx hb d_Rr_greatestFrom_17 (by decide) ?_
        refine lv_imul hx hb d_Rr_greatestFrom_19 ?_
        rw [show (nI (v * 10)) * (nI 10) = nI ((v * 10) * 10) from pk_mul _ _]
        refine lv_istore_n (lv' := [(3, .int (nI ((v * 10) * 10))), (5, .int (nI 2)), (2, .int (nI ((v * 10) + 9))), (4, .int (nI ((v * 10) + 9))), (0, .int (nI v)), (1, .int (nI 1))]) hx hb d_Rr_greatestFrom_20 rfl hl (by decide) rfl (fun ls hl => ?_)
        refine lv_iload hx hb d_Rr_greatestFrom_21 (lv_at hl 3 rfl) ?_
        refine lv_bipush (v := nI 10) hx hb d_Rr_greatestFrom_23 (by decide) ?_
        refine lv_imul hx hb d_Rr_greatestFrom_25 ?_
        rw [show (nI ((v * 10) + 9)) * (nI 10) = nI (((v * 10) + 9) * 10) from pk_mul _ _]
        refine lv_bipush (v := nI 9) hx hb d_Rr_greatestFrom_26 (by decide) ?_
        refine lv_iadd hx hb d_Rr_greatestFrom_28 ?_
        rw [show (nI (((v * 10) + 9) * 10)) + (nI 9) = nI ((((v * 10) + 9) * 10) + 9) from nI_add _ _]
        refine lv_istore (lv' := [(4, .int (nI ((((v * 10) + 9) * 10) + 9))), (3, .int (nI ((v * 10) * 10))), (5, .int (nI 2)), (2, .int (nI ((v * 10) + 9))), (0, .int (nI v)), (1, .int (nI 1))]) hx hb d_Rr_greatestFrom_29 hl (by decide) rfl (fun ls hl => ?_)
        refine lv_iload_n hx hb d_Rr_greatestFrom_31 rfl (lv_at hl 1 rfl) ?_
        refine lv_sipush (v := nI 255) hx hb d_Rr_greatestFrom_32 (by decide) ?_
        refine ln_gt (tgt := 47) hx hb d_Rr_greatestFrom_35 (by decide) (by omega) (by omega) (fun c_5 => ?_) (fun c_5 => ?_)
        · skip
          refine lv_iinc (v := nI 3) (lv' := [(5, .int (nI 3)), (4, .int (nI ((((v * 10) + 9) * 10) + 9))), (3, .int (nI ((v * 10) * 10))), (2, .int (nI ((v * 10) + 9))), (0, .int (nI v)), (1, .int (nI 1))]) hx hb d_Rr_greatestFrom_47 hl (k := 2) rfl (by decide) (by decide) rfl (fun ls hl => ?_)
          refine lv_goto (tgt := 10) hx hb d_Rr_greatestFrom_50 (by decide) ?_
          refine lv_iload hx hb d_Rr_greatestFrom_10 (lv_at hl 0 rfl) ?_
          refine lv_iconst (v := nI 3) hx hb d_Rr_greatestFrom_12 (by decide) ?_
          refine lv_icmp_ge (tgt := 53) hx hb d_Rr_greatestFrom_13 (by decide) (fun _ => ?_) (fun q => absurd q (by decide))
          refine lv_iload_n hx hb d_Rr_greatestFrom_53 rfl (lv_at hl 3 rfl) ?_
          exact gc_iret hx hb hr hlk hP hS d_Rr_greatestFrom_54 ⟨rfl, (by unfold gF; (repeat (first | rw [if_pos (by omega)] | rw [if_neg (by omega)])) <;> omega), rfl, (congrArg nI (by first | (exfalso; omega) | (unfold gF; (repeat (first | rw [if_pos (by omega)] | rw [if_neg (by omega)])))))⟩
        · skip
          refine lv_iload hx hb d_Rr_greatestFrom_38 (lv_at hl 0 rfl) ?_
          refine lv_sipush (v := nI 255) hx hb d_Rr_greatestFrom_40 (by decide) ?_
          refine gn_min hx hb (by rw [hml]; exact hl.1.symm) hown htl k_408 k_286 k_13 k_287 (by decide) (Nat.le_of_ble_eq_true rfl) (by decide) (by decide) (by omega) (by omega) d_Rr_greatestFrom_43 (fun c_6 => ?_) (fun c_6 => ?_)
          · skip
            refine lv_istore_n (lv' := [(2, .int (nI ((((v * 10) + 9) * 10) + 9))), (4, .int (nI ((((v * 10) + 9) * 10) + 9))), (3, .int (nI ((v * 10) * 10))), (5, .int (nI 2)), (0, .int (nI v)), (1, .int (nI 1))]) hx hb d_Rr_greatestFrom_46 rfl hl (by decide) rfl (fun ls hl => ?_)
            refine lv_iinc (v := nI 3) (lv' := [(5, .int (nI 3)), (2, .int (nI ((((v * 10) + 9) * 10) + 9))), (4, .int (nI ((((v * 10) + 9) * 10) + 9))), (3, .int (nI ((v * 10) * 10))), (0, .int (nI v)), (1, .int (nI 1))]) hx hb d_Rr_greatestFrom_47 hl (k := 3) rfl (by decide) (by decide) rfl (fun ls hl => ?_)
            refine lv_goto (tgt := 10) hx hb d_Rr_greatestFrom_50 (by decide) ?_
            refine lv_iload hx hb d_Rr_greatestFrom_10 (lv_at hl 0 rfl) ?_
            refine lv_iconst (v := nI 3) hx hb d_Rr_greatestFrom_12 (by decide) ?_
            refine lv_icmp_ge (tgt := 53) hx hb d_Rr_greatestFrom_13 (by decide) (fun _ => ?_) (fun q => absurd q (by decide))
            refine lv_iload_n hx hb d_Rr_greatestFrom_53 rfl (lv_at hl 1 rfl) ?_
            exact gc_iret hx hb hr hlk hP hS d_Rr_greatestFrom_54 ⟨rfl, (by unfold gF; (repeat (first | rw [if_pos (by omega)] | rw [if_neg (by omega)])) <;> omega), rfl, (congrArg nI (by first | (exfalso; omega) | (unfold gF; (repeat (first | rw [if_pos (by omega)] | rw [if_neg (by omega)])))))⟩
          · skip
            refine lv_istore_n (lv' := [(2, .int (nI 255)), (4, .int (nI ((((v * 10) + 9) * 10) + 9))), (3, .int (nI ((v * 10) * 10))), (5, .int (nI 2)), (0, .int (nI v)), (1, .int (nI 1))]) hx hb d_Rr_greatestFrom_46 rfl hl (by decide) rfl (fun ls hl => ?_)
            refine lv_iinc (v := nI 3) (lv' := [(5, .int (nI 3)), (2, .int (nI 255)), (4, .int (nI ((((v * 10) + 9) * 10) + 9))), (3, .int (nI ((v * 10) * 10))), (0, .int (nI v)), (1, .int (nI 1))]) hx hb d_Rr_greatestFrom_47 hl (k := 3) rfl (by decide) (by decide) rfl (fun ls hl => ?_)
            refine lv_goto (tgt := 10) hx hb d_Rr_greatestFrom_50 (by decide) ?_
            refine lv_iload hx hb d_Rr_greatestFrom_10 (lv_at hl 0 rfl) ?_
            refine lv_iconst (v := nI 3) hx hb d_Rr_greatestFrom_12 (by decide) ?_
            refine lv_icmp_ge (tgt := 53) hx hb d_Rr_greatestFrom_13 (by decide) (fun _ => ?_) (fun q => absurd q (by decide))
            refine lv_iload_n hx hb d_Rr_greatestFrom_53 rfl (lv_at hl 1 rfl) ?_
            exact gc_iret hx hb hr hlk hP hS d_Rr_greatestFrom_54 ⟨rfl, (by unfold gF; (repeat (first | rw [if_pos (by omega)] | rw [if_neg (by omega)])) <;> omega), rfl, (congrArg nI (by first | (exfalso; omega) | (unfold gF; (repeat (first | rw [if_pos (by omega)] | rw [if_neg (by omega)])))))⟩
      · skip
        refine lv_istore_n (lv' := [(2, .int (nI 255)), (4, .int (nI ((v * 10) + 9))), (3, .int (nI (v * 10))), (5, .int (nI 1)), (0, .int (nI v)), (1, .int (nI 1))]) hx hb d_Rr_greatestFrom_46 rfl hl (by decide) rfl (fun ls hl => ?_)
        refine lv_iinc (v := nI 2) (lv' := [(5, .int (nI 2)), (2, .int (nI 255)), (4, .int (nI ((v * 10) + 9))), (3, .int (nI (v * 10))), (0, .int (nI v)), (1, .int (nI 1))]) hx hb d_Rr_greatestFrom_47 hl (k := 3) rfl (by decide) (by decide) rfl (fun ls hl => ?_)
        refine lv_goto (tgt := 10) hx hb d_Rr_greatestFrom_50 (by decide) ?_
        refine lv_iload hx hb d_Rr_greatestFrom_10 (lv_at hl 0 rfl) ?_
        refine lv_iconst (v := nI 3) hx hb d_Rr_greatestFrom_12 (by decide) ?_
        refine lv_icmp_ge (tgt := 53) hx hb d_Rr_greatestFrom_13 (by decide) (fun q => absurd q (by decide)) (fun _ => ?_)
        refine lv_iload_n hx hb d_Rr_greatestFrom_16 rfl (lv_at hl 3 rfl) ?_
        refine lv_bipush (v := nI 10) hx hb d_Rr_greatestFrom_17 (by decide) ?_
        refine lv_imul hx hb d_Rr_greatestFrom_19 ?_
        rw [show (nI (v * 10)) * (nI 10) = nI ((v * 10) * 10) from pk_mul _ _]
        refine lv_istore_n (lv' := [(3, .int (nI ((v * 10) * 10))), (5, .int (nI 2)), (2, .int (nI 255)), (4, .int (nI ((v * 10) + 9))), (0, .int (nI v)), (1, .int (nI 1))]) hx hb d_Rr_greatestFrom_20 rfl hl (by decide) rfl (fun ls hl => ?_)
        refine lv_iload hx hb d_Rr_greatestFrom_21 (lv_at hl 3 rfl) ?_
        refine lv_bipush (v := nI 10) hx hb d_Rr_greatestFrom_23 (by decide) ?_
        refine lv_imul hx hb d_Rr_greatestFrom_25 ?_
        rw [show (nI ((v * 10) + 9)) * (nI 10) = nI (((v * 10) + 9) * 10) from pk_mul _ _]
        refine lv_bipush (v := nI 9) hx hb d_Rr_greatestFrom_26 (by decide) ?_
        refine lv_iadd hx hb d_Rr_greatestFrom_28 ?_
        rw [show (nI (((v * 10) + 9) * 10)) + (nI 9) = nI ((((v * 10) + 9) * 10) + 9) from nI_add _ _]
        refine lv_istore (lv' := [(4, .int (nI ((((v * 10) + 9) * 10) + 9))), (3, .int (nI ((v * 10) * 10))), (5, .int (nI 2)), (2, .int (nI 255)), (0, .int (nI v)), (1, .int (nI 1))]) hx hb d_Rr_greatestFrom_29 hl (by decide) rfl (fun ls hl => ?_)
        refine lv_iload_n hx hb d_Rr_greatestFrom_31 rfl (lv_at hl 1 rfl) ?_
        refine lv_sipush (v := nI 255) hx hb d_Rr_greatestFrom_32 (by decide) ?_
        refine ln_gt (tgt := 47) hx hb d_Rr_greatestFrom_35 (by decide) (by omega) (by omega) (fun c_7 => ?_) (fun c_7 => ?_)
        · skip
          refine lv_iinc (v := nI 3) (lv' := [(5, .int (nI 3)), (4, .int (nI ((((v * 10) + 9) * 10) + 9))), (3, .int (nI ((v * 10) * 10))), (2, .int (nI 255)), (0, .int (nI v)), (1, .int (nI 1))]) hx hb d_Rr_greatestFrom_47 hl (k := 2) rfl (by decide) (by decide) rfl (fun ls hl => ?_)
          refine lv_goto (tgt := 10) hx hb d_Rr_greatestFrom_50 (by decide) ?_
          refine lv_iload hx hb d_Rr_greatestFrom_10 (lv_at hl 0 rfl) ?_
          refine lv_iconst (v := nI 3) hx hb d_Rr_greatestFrom_12 (by decide) ?_
          refine lv_icmp_ge (tgt := 53) hx hb d_Rr_greatestFrom_13 (by decide) (fun _ => ?_) (fun q => absurd q (by decide))
          refine lv_iload_n hx hb d_Rr_greatestFrom_53 rfl (lv_at hl 3 rfl) ?_
          exact gc_iret hx hb hr hlk hP hS d_Rr_greatestFrom_54 ⟨rfl, (by unfold gF; (repeat (first | rw [if_pos (by omega)] | rw [if_neg (by omega)])) <;> omega), rfl, (congrArg nI (by first | (exfalso; omega) | (unfold gF; (repeat (first | rw [if_pos (by omega)] | rw [if_neg (by omega)])))))⟩
        · skip
          refine lv_iload hx hb d_Rr_greatestFrom_38 (lv_at hl 0 rfl) ?_
          refine lv_sipush (v := nI 255) hx hb d_Rr_greatestFrom_40 (by decide) ?_
          refine gn_min hx hb (by rw [hml]; exact hl.1.symm) hown htl k_408 k_286 k_13 k_287 (by decide) (Nat.le_of_ble_eq_true rfl) (by decide) (by decide) (by omega) (by omega) d_Rr_greatestFrom_43 (fun c_8 => ?_) (fun c_8 => ?_)
          · skip
            refine lv_istore_n (lv' := [(2, .int (nI ((((v * 10) + 9) * 10) + 9))), (4, .int (nI ((((v * 10) + 9) * 10) + 9))), (3, .int (nI ((v * 10) * 10))), (5, .int (nI 2)), (0, .int (nI v)), (1, .int (nI 1))]) hx hb d_Rr_greatestFrom_46 rfl hl (by decide) rfl (fun ls hl => ?_)
            refine lv_iinc (v := nI 3) (lv' := [(5, .int (nI 3)), (2, .int (nI ((((v * 10) + 9) * 10) + 9))), (4, .int (nI ((((v * 10) + 9) * 10) + 9))), (3, .int (nI ((v * 10) * 10))), (0, .int (nI v)), (1, .int (nI 1))]) hx hb d_Rr_greatestFrom_47 hl (k := 3) rfl (by decide) (by decide) rfl (fun ls hl => ?_)
            refine lv_goto (tgt := 10) hx hb d_Rr_greatestFrom_50 (by decide) ?_
            refine lv_iload hx hb d_Rr_greatestFrom_10 (lv_at hl 0 rfl) ?_
            refine lv_iconst (v := nI 3) hx hb d_Rr_greatestFrom_12 (by decide) ?_
            refine lv_icmp_ge (tgt := 53) hx hb d_Rr_greatestFrom_13 (by decide) (fun _ => ?_) (fun q => absurd q (by decide))
            refine lv_iload_n hx hb d_Rr_greatestFrom_53 rfl (lv_at hl 1 rfl) ?_
            exact gc_iret hx hb hr hlk hP hS d_Rr_greatestFrom_54 ⟨rfl, (by unfold gF; (repeat (first | rw [if_pos (by omega)] | rw [if_neg (by omega)])) <;> omega), rfl, (congrArg nI (by first | (exfalso; omega) | (unfold gF; (repeat (first | rw [if_pos (by omega)] | rw [if_neg (by omega)])))))⟩
          · skip
            refine lv_istore_n (lv' := [(2, .int (nI 255)), (4, .int (nI ((((v * 10) + 9) * 10) + 9))), (3, .int (nI ((v * 10) * 10))), (5, .int (nI 2)), (0, .int (nI v)), (1, .int (nI 1))]) hx hb d_Rr_greatestFrom_46 rfl hl (by decide) rfl (fun ls hl => ?_)
            refine lv_iinc (v := nI 3) (lv' := [(5, .int (nI 3)), (2, .int (nI 255)), (4, .int (nI ((((v * 10) + 9) * 10) + 9))), (3, .int (nI ((v * 10) * 10))), (0, .int (nI v)), (1, .int (nI 1))]) hx hb d_Rr_greatestFrom_47 hl (k := 3) rfl (by decide) (by decide) rfl (fun ls hl => ?_)
            refine lv_goto (tgt := 10) hx hb d_Rr_greatestFrom_50 (by decide) ?_
            refine lv_iload hx hb d_Rr_greatestFrom_10 (lv_at hl 0 rfl) ?_
            refine lv_iconst (v := nI 3) hx hb d_Rr_greatestFrom_12 (by decide) ?_
            refine lv_icmp_ge (tgt := 53) hx hb d_Rr_greatestFrom_13 (by decide) (fun _ => ?_) (fun q => absurd q (by decide))
            refine lv_iload_n hx hb d_Rr_greatestFrom_53 rfl (lv_at hl 1 rfl) ?_
            exact gc_iret hx hb hr hlk hP hS d_Rr_greatestFrom_54 ⟨rfl, (by unfold gF; (repeat (first | rw [if_pos (by omega)] | rw [if_neg (by omega)])) <;> omega), rfl, (congrArg nI (by first | (exfalso; omega) | (unfold gF; (repeat (first | rw [if_pos (by omega)] | rw [if_neg (by omega)])))))⟩
  · skip
    refine lv_iload_n hx hb d_Rr_greatestFrom_0 rfl (lv_at hl 0 rfl) ?_
    refine lv_istore_n (lv' := [(2, .int (nI v)), (0, .int (nI v)), (1, .int (nI 2))]) hx hb d_Rr_greatestFrom_1 rfl hl (by decide) rfl (fun ls hl => ?_)
    refine lv_iload_n hx hb d_Rr_greatestFrom_2 rfl (lv_at hl 1 rfl) ?_
    refine lv_istore_n (lv' := [(3, .int (nI v)), (2, .int (nI v)), (0, .int (nI v)), (1, .int (nI 2))]) hx hb d_Rr_greatestFrom_3 rfl hl (by decide) rfl (fun ls hl => ?_)
    refine lv_iload_n hx hb d_Rr_greatestFrom_4 rfl (lv_at hl 2 rfl) ?_
    refine lv_istore (lv' := [(4, .int (nI v)), (3, .int (nI v)), (2, .int (nI v)), (0, .int (nI v)), (1, .int (nI 2))]) hx hb d_Rr_greatestFrom_5 hl (by decide) rfl (fun ls hl => ?_)
    refine lv_iload_n hx hb d_Rr_greatestFrom_7 rfl (lv_at hl 4 rfl) ?_
    refine lv_istore (lv' := [(5, .int (nI 2)), (4, .int (nI v)), (3, .int (nI v)), (2, .int (nI v)), (0, .int (nI v)), (1, .int (nI 2))]) hx hb d_Rr_greatestFrom_8 hl (by decide) rfl (fun ls hl => ?_)
    refine lv_iload hx hb d_Rr_greatestFrom_10 (lv_at hl 0 rfl) ?_
    refine lv_iconst (v := nI 3) hx hb d_Rr_greatestFrom_12 (by decide) ?_
    refine lv_icmp_ge (tgt := 53) hx hb d_Rr_greatestFrom_13 (by decide) (fun q => absurd q (by decide)) (fun _ => ?_)
    refine lv_iload_n hx hb d_Rr_greatestFrom_16 rfl (lv_at hl 2 rfl) ?_
    refine lv_bipush (v := nI 10) hx hb d_Rr_greatestFrom_17 (by decide) ?_
    refine lv_imul hx hb d_Rr_greatestFrom_19 ?_
    rw [show (nI v) * (nI 10) = nI (v * 10) from pk_mul _ _]
    refine lv_istore_n (lv' := [(3, .int (nI (v * 10))), (5, .int (nI 2)), (4, .int (nI v)), (2, .int (nI v)), (0, .int (nI v)), (1, .int (nI 2))]) hx hb d_Rr_greatestFrom_20 rfl hl (by decide) rfl (fun ls hl => ?_)
    refine lv_iload hx hb d_Rr_greatestFrom_21 (lv_at hl 2 rfl) ?_
    refine lv_bipush (v := nI 10) hx hb d_Rr_greatestFrom_23 (by decide) ?_
    refine lv_imul hx hb d_Rr_greatestFrom_25 ?_
    rw [show (nI v) * (nI 10) = nI (v * 10) from pk_mul _ _]
    refine lv_bipush (v := nI 9) hx hb d_Rr_greatestFrom_26 (by decide) ?_
    refine lv_iadd hx hb d_Rr_greatestFrom_28 ?_
    rw [show (nI (v * 10)) + (nI 9) = nI ((v * 10) + 9) from nI_add _ _]
    refine lv_istore (lv' := [(4, .int (nI ((v * 10) + 9))), (3, .int (nI (v * 10))), (5, .int (nI 2)), (2, .int (nI v)), (0, .int (nI v)), (1, .int (nI 2))]) hx hb d_Rr_greatestFrom_29 hl (by decide) rfl (fun ls hl => ?_)
    refine lv_iload_n hx hb d_Rr_greatestFrom_31 rfl (lv_at hl 1 rfl) ?_
    refine lv_sipush (v := nI 255) hx hb d_Rr_greatestFrom_32 (by decide) ?_
    refine ln_gt (tgt := 47) hx hb d_Rr_greatestFrom_35 (by decide) (by omega) (by omega) (fun c_9 => ?_) (fun c_9 => ?_)
    · skip
      refine lv_iinc (v := nI 3) (lv' := [(5, .int (nI 3)), (4, .int (nI ((v * 10) + 9))), (3, .int (nI (v * 10))), (2, .int (nI v)), (0, .int (nI v)), (1, .int (nI 2))]) hx hb d_Rr_greatestFrom_47 hl (k := 2) rfl (by decide) (by decide) rfl (fun ls hl => ?_)
      refine lv_goto (tgt := 10) hx hb d_Rr_greatestFrom_50 (by decide) ?_
      refine lv_iload hx hb d_Rr_greatestFrom_10 (lv_at hl 0 rfl) ?_
      refine lv_iconst (v := nI 3) hx hb d_Rr_greatestFrom_12 (by decide) ?_
      refine lv_icmp_ge (tgt := 53) hx hb d_Rr_greatestFrom_13 (by decide) (fun _ => ?_) (fun q => absurd q (by decide))
      refine lv_iload_n hx hb d_Rr_greatestFrom_53 rfl (lv_at hl 3 rfl) ?_
      exact gc_iret hx hb hr hlk hP hS d_Rr_greatestFrom_54 ⟨rfl, (by unfold gF; (repeat (first | rw [if_pos (by omega)] | rw [if_neg (by omega)])) <;> omega), rfl, (congrArg nI (by first | (exfalso; omega) | (unfold gF; (repeat (first | rw [if_pos (by omega)] | rw [if_neg (by omega)])))))⟩
    · skip
      refine lv_iload hx hb d_Rr_greatestFrom_38 (lv_at hl 0 rfl) ?_
      refine lv_sipush (v := nI 255) hx hb d_Rr_greatestFrom_40 (by decide) ?_
      refine gn_min hx hb (by rw [hml]; exact hl.1.symm) hown htl k_408 k_286 k_13 k_287 (by decide) (Nat.le_of_ble_eq_true rfl) (by decide) (by decide) (by omega) (by omega) d_Rr_greatestFrom_43 (fun c_10 => ?_) (fun c_10 => ?_)
      · skip
        refine lv_istore_n (lv' := [(2, .int (nI ((v * 10) + 9))), (4, .int (nI ((v * 10) + 9))), (3, .int (nI (v * 10))), (5, .int (nI 2)), (0, .int (nI v)), (1, .int (nI 2))]) hx hb d_Rr_greatestFrom_46 rfl hl (by decide) rfl (fun ls hl => ?_)
        refine lv_iinc (v := nI 3) (lv' := [(5, .int (nI 3)), (2, .int (nI ((v * 10) + 9))), (4, .int (nI ((v * 10) + 9))), (3, .int (nI (v * 10))), (0, .int (nI v)), (1, .int (nI 2))]) hx hb d_Rr_greatestFrom_47 hl (k := 3) rfl (by decide) (by decide) rfl (fun ls hl => ?_)
        refine lv_goto (tgt := 10) hx hb d_Rr_greatestFrom_50 (by decide) ?_
        refine lv_iload hx hb d_Rr_greatestFrom_10 (lv_at hl 0 rfl) ?_
        refine lv_iconst (v := nI 3) hx hb d_Rr_greatestFrom_12 (by decide) ?_
        refine lv_icmp_ge (tgt := 53) hx hb d_Rr_greatestFrom_13 (by decide) (fun _ => ?_) (fun q => absurd q (by decide))
        refine lv_iload_n hx hb d_Rr_greatestFrom_53 rfl (lv_at hl 1 rfl) ?_
        exact gc_iret hx hb hr hlk hP hS d_Rr_greatestFrom_54 ⟨rfl, (by unfold gF; (repeat (first | rw [if_pos (by omega)] | rw [if_neg (by omega)])) <;> omega), rfl, (congrArg nI (by first | (exfalso; omega) | (unfold gF; (repeat (first | rw [if_pos (by omega)] | rw [if_neg (by omega)])))))⟩
      · skip
        refine lv_istore_n (lv' := [(2, .int (nI 255)), (4, .int (nI ((v * 10) + 9))), (3, .int (nI (v * 10))), (5, .int (nI 2)), (0, .int (nI v)), (1, .int (nI 2))]) hx hb d_Rr_greatestFrom_46 rfl hl (by decide) rfl (fun ls hl => ?_)
        refine lv_iinc (v := nI 3) (lv' := [(5, .int (nI 3)), (2, .int (nI 255)), (4, .int (nI ((v * 10) + 9))), (3, .int (nI (v * 10))), (0, .int (nI v)), (1, .int (nI 2))]) hx hb d_Rr_greatestFrom_47 hl (k := 3) rfl (by decide) (by decide) rfl (fun ls hl => ?_)
        refine lv_goto (tgt := 10) hx hb d_Rr_greatestFrom_50 (by decide) ?_
        refine lv_iload hx hb d_Rr_greatestFrom_10 (lv_at hl 0 rfl) ?_
        refine lv_iconst (v := nI 3) hx hb d_Rr_greatestFrom_12 (by decide) ?_
        refine lv_icmp_ge (tgt := 53) hx hb d_Rr_greatestFrom_13 (by decide) (fun _ => ?_) (fun q => absurd q (by decide))
        refine lv_iload_n hx hb d_Rr_greatestFrom_53 rfl (lv_at hl 1 rfl) ?_
        exact gc_iret hx hb hr hlk hP hS d_Rr_greatestFrom_54 ⟨rfl, (by unfold gF; (repeat (first | rw [if_pos (by omega)] | rw [if_neg (by omega)])) <;> omega), rfl, (congrArg nI (by first | (exfalso; omega) | (unfold gF; (repeat (first | rw [if_pos (by omega)] | rw [if_neg (by omega)])))))⟩
  · skip
    refine lv_iload_n hx hb d_Rr_greatestFrom_0 rfl (lv_at hl 0 rfl) ?_
    refine lv_istore_n (lv' := [(2, .int (nI v)), (0, .int (nI v)), (1, .int (nI 3))]) hx hb d_Rr_greatestFrom_1 rfl hl (by decide) rfl (fun ls hl => ?_)
    refine lv_iload_n hx hb d_Rr_greatestFrom_2 rfl (lv_at hl 1 rfl) ?_
    refine lv_istore_n (lv' := [(3, .int (nI v)), (2, .int (nI v)), (0, .int (nI v)), (1, .int (nI 3))]) hx hb d_Rr_greatestFrom_3 rfl hl (by decide) rfl (fun ls hl => ?_)
    refine lv_iload_n hx hb d_Rr_greatestFrom_4 rfl (lv_at hl 2 rfl) ?_
    refine lv_istore (lv' := [(4, .int (nI v)), (3, .int (nI v)), (2, .int (nI v)), (0, .int (nI v)), (1, .int (nI 3))]) hx hb d_Rr_greatestFrom_5 hl (by decide) rfl (fun ls hl => ?_)
    refine lv_iload_n hx hb d_Rr_greatestFrom_7 rfl (lv_at hl 4 rfl) ?_
    refine lv_istore (lv' := [(5, .int (nI 3)), (4, .int (nI v)), (3, .int (nI v)), (2, .int (nI v)), (0, .int (nI v)), (1, .int (nI 3))]) hx hb d_Rr_greatestFrom_8 hl (by decide) rfl (fun ls hl => ?_)
    refine lv_iload hx hb d_Rr_greatestFrom_10 (lv_at hl 0 rfl) ?_
    refine lv_iconst (v := nI 3) hx hb d_Rr_greatestFrom_12 (by decide) ?_
    refine lv_icmp_ge (tgt := 53) hx hb d_Rr_greatestFrom_13 (by decide) (fun _ => ?_) (fun q => absurd q (by decide))
    refine lv_iload_n hx hb d_Rr_greatestFrom_53 rfl (lv_at hl 3 rfl) ?_
    exact gc_iret hx hb hr hlk hP hS d_Rr_greatestFrom_54 ⟨rfl, (by unfold gF; (repeat (first | rw [if_pos (by omega)] | rw [if_neg (by omega)])) <;> omega), rfl, (congrArg nI (by first | (exfalso; omega) | (unfold gF; (repeat (first | rw [if_pos (by omega)] | rw [if_neg (by omega)])))))⟩
set_option maxHeartbeats 4000000 in
set_option maxRecDepth 100000 in
theorem c_Rr_readOneOf (j : Nat) {y z q p0 : Nat} {t : List Nat} {f : Nat → Int32} (e1 : M y = some (.inr (7, [.int (nI p0)]))) (e2 : M z = some (.inr (4, [.ref q, .int (nI t.length)]))) (e3 : M q = some (.inl (ca 1, 40, .inl f))) (ht : t.length ≤ 40) (htx : txt f t) (hcs : ∀ c ∈ t, c < 256) (hp0 : p0 ≤ 100) (hj : j < 4) : gC l D ca A G y_Rr_readOneOf (.code y_Rr_readOneOf b_Rr_readOneOf 4 (some .int)) ({ frames := 4, cells := 0, slots := 0, locals := 91 }) N M [.ref y, .ref z, .ref (G.1 j)] gm_i (fun (r : Int32) (N1 : Nat) (M1 : gm_M) => N = N1 ∧ ((∃ (k : Nat), (lix j (t.getD p0 32) = some k) ∧ (k < 22) ∧ gm_up M y (.inr (7, [.int (nI (p0 + 1))])) = M1 ∧ nI k = r) ∨ ((lix j (t.getD p0 32) = none) ∧ M = M1 ∧ (-1) = r))) := by
  refine gm_body (by decide) (Nat.le_of_ble_eq_true rfl) (fun p e s m below meth c ls hx hb hr hts hown hlk hml hnm hP hK hN hX hS hl => ?_)
  have htl : ∀ w ∈ LW, w.before _ s = true := fun w h => hts w (List.mem_cons_of_mem _ h)
  have hown : s.vm.findClass "PacketGate$RuleReader" = some m.cls := hown
  have hl : lv_has ls 4 [(0, .ref y), (1, .ref z), (2, .ref (G.1 j))] := hl
  have h256 := txt_lt hcs p0
  have h22 := tx_l4 j
  refine lv_aload_n hx hb d_Rr_readOneOf_0 rfl (lv_at hl 2 rfl) ?_
  refine lv_aload_n hx hb d_Rr_readOneOf_1 rfl (lv_at hl 1 rfl) ?_
  refine lv_aload_n hx hb d_Rr_readOneOf_2 rfl (lv_at hl 0 rfl) ?_
  refine gm_get (C := R_Rr) (T := F_Rr) (n := 1) hx hb htl i_Rr hown hK hP e1 rfl 0 (by decide) (htl _ k_47) (fun _ h => h) rfl d_Rr_readOneOf_3 ?_
  refine gc_V (q := (R_Li, F_Li, 2)) (n := 1) [.int (nI p0)] [.ref (G.1 j)] hx hb hml hown hts hK hN hX hP hS (c_Li_at e2 e3 (by omega) (by omega) htx hcs) rfl e2 k_379 k_380 k_381 k_2 k_382 (by decide +kernel) ⟨by decide, by decide⟩ rfl hl.1 rfl (Nat.le_of_ble_eq_true rfl) d_Rr_readOneOf_6 ⟨by decide, by decide⟩ (fun r N1 M_1 H locs hw hP hS => ?_)
  obtain ⟨rfl, hw⟩ := hw
  obtain ⟨rfl, rfl⟩ := hw
  refine W.eq (g2 := F0 m 9 ls [.int (nI (t.getD p0 32)), .ref (G.1 j)]) rfl ?_
  refine gc_T (n := 1) [.int (nI (t.getD p0 32))] [] hx hb hml hown hts hK hN hX hP hS (c_St_indexOf1 j (t.getD p0 32) (by omega) (by omega)) (vk_recv hX.2.2.2.1 (by omega) hS) k_383 k_255 k_256 k_11 k_257 (by decide +kernel) ⟨by decide, by decide⟩ rfl hl.1 rfl (Nat.le_of_ble_eq_true rfl) d_Rr_readOneOf_9 ⟨by decide, by decide⟩ (fun r N1 M_2 H locs hw hP hS => ?_)
  obtain ⟨rfl, hw⟩ := hw
  rcases hw with ⟨kv_3, c_4, c_5, c_6, rfl, rfl⟩ | ⟨c_7, rfl, rfl⟩
  · skip
    refine W.eq (g2 := F0 m 12 ls [.int (nI kv_3)]) rfl ?_
    refine lv_istore_n (lv' := [(3, .int (nI kv_3)), (0, .ref y), (1, .ref z), (2, .ref (G.1 j))]) hx hb d_Rr_readOneOf_12 rfl hl (by decide) rfl (fun ls hl => ?_)
    refine lv_iload_n hx hb d_Rr_readOneOf_13 rfl (lv_at hl 0 rfl) ?_
    refine lv_iconst (v := (-1)) hx hb d_Rr_readOneOf_14 (by decide) ?_
    refine lv_icmp_eq (tgt := 28) hx hb d_Rr_readOneOf_15 (by decide) (fun q => absurd q (nI_nm1 (by omega))) (fun _ => ?_)
    refine lv_aload_n hx hb d_Rr_readOneOf_18 rfl (lv_at hl 1 rfl) ?_
    refine lv_dup hx hb d_Rr_readOneOf_19 rfl ?_
    refine gm_get (C := R_Rr) (T := F_Rr) (n := 1) hx hb htl i_Rr hown hK hP e1 rfl 0 (by decide) (htl _ k_47) (fun _ h => h) rfl d_Rr_readOneOf_20 ?_
    refine lv_iconst (v := nI 1) hx hb d_Rr_readOneOf_23 (by decide) ?_
    refine lv_iadd hx hb d_Rr_readOneOf_24 ?_
    rw [show (nI p0) + (nI 1) = nI (p0 + 1) from nI_add _ _]
    refine gm_put (C := R_Rr) (T := F_Rr) (n := 1) (ty := .int) hx hb htl i_Rr t_Rr tk_Rr n_Rr hown hK hP hS e1 rfl 0 (by decide) (htl _ k_47) (fun _ h => h) rfl (tk_Rr 0 (by decide)) rfl rfl (Nat.le_of_ble_eq_true rfl) d_Rr_readOneOf_25 (fun H locs hP hS => ?_)
    have hP : gm_P D cls A N (gm_up M y (.inr (7, [.int (nI (p0 + 1))]))) H := hP
    have h_8 := gm_pass (k := y) (y := .inr (7, [.int (nI (p0 + 1))])) e2 (gm_ne e2 e1 (fun h => by cases h))
    have h_9 := gm_pass (k := y) (y := .inr (7, [.int (nI (p0 + 1))])) e3 (gm_ne e3 e1 (fun h => by cases h))
    have h_10 := gm_up_self M y (.inr (7, [.int (nI (p0 + 1))]))
    refine lv_iload_n hx hb d_Rr_readOneOf_28 rfl (lv_at hl 0 rfl) ?_
    exact gc_iret hx hb hr hlk hP hS d_Rr_readOneOf_29 ⟨rfl, Or.inl ⟨kv_3, lix_some c_4 c_5 c_6, (by have := c_4; have := tx_l4 j; omega), rfl, rfl⟩⟩
  · skip
    refine W.eq (g2 := F0 m 12 ls [.int (-1)]) rfl ?_
    refine lv_istore_n (lv' := [(3, .int (-1)), (0, .ref y), (1, .ref z), (2, .ref (G.1 j))]) hx hb d_Rr_readOneOf_12 rfl hl (by decide) rfl (fun ls hl => ?_)
    refine lv_iload_n hx hb d_Rr_readOneOf_13 rfl (lv_at hl 0 rfl) ?_
    refine lv_iconst (v := (-1)) hx hb d_Rr_readOneOf_14 (by decide) ?_
    refine lv_icmp_eq (tgt := 28) hx hb d_Rr_readOneOf_15 (by decide) (fun _ => ?_) (fun q => absurd q (by decide))
    refine lv_iload_n hx hb d_Rr_readOneOf_28 rfl (lv_at hl 0 rfl) ?_
    exact gc_iret hx hb hr hlk hP hS d_Rr_readOneOf_29 ⟨rfl, Or.inr ⟨lix_none c_7, rfl, rfl⟩⟩
set_option maxHeartbeats 4000000 in
set_option maxRecDepth 100000 in
theorem c_Rr_readMark {y z q p0 : Nat} {t : List Nat} {f : Nat → Int32} {ch : Nat} (e1 : M y = some (.inr (7, [.int (nI p0)]))) (e2 : M z = some (.inr (4, [.ref q, .int (nI t.length)]))) (e3 : M q = some (.inl (ca 1, 40, .inl f))) (ht : t.length ≤ 40) (htx : txt f t) (hcs : ∀ c ∈ t, c < 256) (hp0 : p0 ≤ 100) (hc : ch < 65536) : gC l D ca A G y_Rr_readMark (.code y_Rr_readMark b_Rr_readMark 3 (some .boolean)) ({ frames := 1, cells := 0, slots := 0, locals := 21 }) N M [.ref y, .ref z, .int (nI ch)] gm_i (fun (r : Int32) (N1 : Nat) (M1 : gm_M) => N = N1 ∧ (((t.getD p0 32 = ch) ∧ gm_up M y (.inr (7, [.int (nI (p0 + 1))])) = M1 ∧ nI 1 = r) ∨ ((¬ t.getD p0 32 = ch) ∧ M = M1 ∧ nI 0 = r))) := by
  refine gm_body (by decide) (Nat.le_of_ble_eq_true rfl) (fun p e s m below meth c ls hx hb hr hts hown hlk hml hnm hP hK hN hX hS hl => ?_)
  have htl : ∀ w ∈ LW, w.before _ s = true := fun w h => hts w (List.mem_cons_of_mem _ h)
  have hown : s.vm.findClass "PacketGate$RuleReader" = some m.cls := hown
  have hl : lv_has ls 3 [(0, .ref y), (1, .ref z), (2, .int (nI ch))] := hl
  have h256 := txt_lt hcs p0
  refine lv_aload_n hx hb d_Rr_readMark_0 rfl (lv_at hl 1 rfl) ?_
  refine lv_aload_n hx hb d_Rr_readMark_1 rfl (lv_at hl 0 rfl) ?_
  refine gm_get (C := R_Rr) (T := F_Rr) (n := 1) hx hb htl i_Rr hown hK hP e1 rfl 0 (by decide) (htl _ k_47) (fun _ h => h) rfl d_Rr_readMark_2 ?_
  refine gc_V (q := (R_Li, F_Li, 2)) (n := 1) [.int (nI p0)] [] hx hb hml hown hts hK hN hX hP hS (c_Li_at e2 e3 (by omega) (by omega) htx hcs) rfl e2 k_379 k_380 k_381 k_2 k_382 (by decide +kernel) ⟨by decide, by decide⟩ rfl hl.1 rfl (Nat.le_of_ble_eq_true rfl) d_Rr_readMark_5 ⟨by decide, by decide⟩ (fun r N1 M_1 H locs hw hP hS => ?_)
  obtain ⟨rfl, hw⟩ := hw
  obtain ⟨rfl, rfl⟩ := hw
  refine W.eq (g2 := F0 m 8 ls [.int (nI (t.getD p0 32))]) rfl ?_
  refine lv_iload_n hx hb d_Rr_readMark_8 rfl (lv_at hl 2 rfl) ?_
  refine ln_eq (tgt := 14) hx hb d_Rr_readMark_9 (by decide) (by omega) (by omega) (fun c_2 => ?_) (fun c_2 => ?_)
  · skip
    refine lv_aload_n hx hb d_Rr_readMark_14 rfl (lv_at hl 0 rfl) ?_
    refine lv_dup hx hb d_Rr_readMark_15 rfl ?_
    refine gm_get (C := R_Rr) (T := F_Rr) (n := 1) hx hb htl i_Rr hown hK hP e1 rfl 0 (by decide) (htl _ k_47) (fun _ h => h) rfl d_Rr_readMark_16 ?_
    refine lv_iconst (v := nI 1) hx hb d_Rr_readMark_19 (by decide) ?_
    refine lv_iadd hx hb d_Rr_readMark_20 ?_
    rw [show (nI p0) + (nI 1) = nI (p0 + 1) from nI_add _ _]
    refine gm_put (C := R_Rr) (T := F_Rr) (n := 1) (ty := .int) hx hb htl i_Rr t_Rr tk_Rr n_Rr hown hK hP hS e1 rfl 0 (by decide) (htl _ k_47) (fun _ h => h) rfl (tk_Rr 0 (by decide)) rfl rfl (Nat.le_of_ble_eq_true rfl) d_Rr_readMark_21 (fun H locs hP hS => ?_)
    have hP : gm_P D cls A N (gm_up M y (.inr (7, [.int (nI (p0 + 1))]))) H := hP
    have h_3 := gm_pass (k := y) (y := .inr (7, [.int (nI (p0 + 1))])) e2 (gm_ne e2 e1 (fun h => by cases h))
    have h_4 := gm_pass (k := y) (y := .inr (7, [.int (nI (p0 + 1))])) e3 (gm_ne e3 e1 (fun h => by cases h))
    have h_5 := gm_up_self M y (.inr (7, [.int (nI (p0 + 1))]))
    refine lv_iconst (v := nI 1) hx hb d_Rr_readMark_24 (by decide) ?_
    exact gc_zret hx hb hr hlk hP hS d_Rr_readMark_25 rfl (by first | exact ⟨rfl, Or.inl ⟨(by first | assumption | omega), rfl, rfl⟩⟩ | exact ⟨rfl, Or.inr ⟨(by first | assumption | omega), rfl, rfl⟩⟩)
  · skip
    refine lv_iconst (v := nI 0) hx hb d_Rr_readMark_12 (by decide) ?_
    exact gc_zret hx hb hr hlk hP hS d_Rr_readMark_13 rfl (by first | exact ⟨rfl, Or.inl ⟨(by first | assumption | omega), rfl, rfl⟩⟩ | exact ⟨rfl, Or.inr ⟨(by first | assumption | omega), rfl, rfl⟩⟩)
set_option maxHeartbeats 4000000 in
set_option maxRecDepth 100000 in
theorem c_Rr_readNumber {y z q p0 : Nat} {t : List Nat} {f : Nat → Int32} {ls0 : Nat} (e1 : M y = some (.inr (7, [.int (nI p0)]))) (e2 : M z = some (.inr (4, [.ref q, .int (nI t.length)]))) (e3 : M q = some (.inl (ca 1, 40, .inl f))) (ht : t.length ≤ 40) (htx : txt f t) (hcs : ∀ c ∈ t, c < 256) (hp0 : p0 ≤ 100) (hls : ls0 ≤ 255) : gC l D ca A G y_Rr_readNumber (.code y_Rr_readNumber b_Rr_readNumber 5 (some .int)) ({ frames := 2, cells := 0, slots := 0, locals := 46 }) N M [.ref y, .ref z, .int (nI ls0)] gm_i (fun (r : Int32) (N1 : Nat) (M1 : gm_M) => N = N1 ∧ ((∃ (v : Nat) (p1 : Nat), (rn t ls0 4 p0 0 0 = (some v, p1)) ∧ (v ≤ 255) ∧ (p1 ≤ p0 + 4) ∧ gm_up M y (.inr (7, [.int (nI p1)])) = M1 ∧ nI v = r) ∨ (∃ (p1 : Nat), (rn t ls0 4 p0 0 0 = (none, p1)) ∧ (p1 ≤ p0 + 4) ∧ gm_up M y (.inr (7, [.int (nI p1)])) = M1 ∧ (-1) = r))) := by
  refine gm_body (by decide) (Nat.le_of_ble_eq_true rfl) (fun p e s m below meth c ls hx hb hr hts hown hlk hml hnm hP hK hN hX hS hl => ?_)
  have htl : ∀ w ∈ LW, w.before _ s = true := fun w h => hts w (List.mem_cons_of_mem _ h)
  have hown : s.vm.findClass "PacketGate$RuleReader" = some m.cls := hown
  have hl : lv_has ls 5 [(0, .ref y), (1, .ref z), (2, .int (nI ls0))] := hl
  generalize hQ : MQ below _ _ s _ _ A = Q
  refine lv_iconst (v := nI 0) hx hb d_Rr_readNumber_0 (by decide) ?_
  refine lv_istore_n (lv' := [(3, .int (nI 0)), (0, .ref y), (1, .ref z), (2, .int (nI ls0))]) hx hb d_Rr_readNumber_1 rfl hl (by decide) rfl (fun ls hl => ?_)
  refine lv_iconst (v := nI 0) hx hb d_Rr_readNumber_2 (by decide) ?_
  refine lv_istore (lv' := [(4, .int (nI 0)), (3, .int (nI 0)), (0, .ref y), (1, .ref z), (2, .int (nI ls0))]) hx hb d_Rr_readNumber_3 hl (by decide) rfl (fun ls hl => ?_)
  have loop_5 : ∀ (fu : Nat) (pv : Nat) (nu : Nat) (dg : Nat) (ls : Array Slot) (H : Heap) (locs : List Loc), (nu ≤ 255 ∧ dg ≤ 3 ∧ pv ≤ p0 + dg) → (rn t ls0 (4 - dg) pv nu dg = rn t ls0 4 p0 0 0) → (4 - dg) < fu → gm_P D cls A N (gm_up M y (.inr (7, [.int (nI pv)]))) H → va_S A s.heap H locs → lv_has ls 5 [(0, .ref y), (1, .ref z), (2, .int (nI ls0)), (3, .int (nI nu)), (4, .int (nI dg))] → W p l e ({ frames := 2, cells := 0, slots := 0, locals := 46 }) s m ([.ref y, .ref z, .int (nI ls0)] : List Value).toArray below meth c H locs (0) (0) Q (F0 m 5 ls []) := by
    intro fu
    induction fu with
    | zero => intro pv nu dg ls H locs hb4 hrn hk; exact absurd hk (Nat.not_lt_zero _)
    | succ fu ih_5 =>
      intro pv nu dg ls H locs hb4 hrn hk hP hS hl
      have h_1 := gm_pass (k := y) (y := .inr (7, [.int (nI pv)])) e2 (gm_ne e2 e1 (fun h => by cases h))
      have h_2 := gm_pass (k := y) (y := .inr (7, [.int (nI pv)])) e3 (gm_ne e3 e1 (fun h => by cases h))
      have h_3 := gm_up_self M y (.inr (7, [.int (nI pv)]))
      have h256 := txt_lt hcs pv
      rw [show 4 - dg = (3 - dg) + 1 from (by omega), rn_s] at hrn
      refine lv_aload_n hx hb d_Rr_readNumber_5 rfl (lv_at hl 0 rfl) ?_
      refine gm_get (C := R_Rr) (T := F_Rr) (n := 1) hx hb htl i_Rr hown hK hP h_3 rfl 0 (by decide) (htl _ k_47) (fun _ h => h) rfl d_Rr_readNumber_6 ?_
      refine lv_aload_n hx hb d_Rr_readNumber_9 rfl (lv_at hl 1 rfl) ?_
      refine gm_get (C := R_Li) (T := F_Li) (n := 2) hx hb htl i_Li hown hK hP h_1 rfl 1 (by decide) (htl _ k_34) (fun _ h => h) rfl d_Rr_readNumber_10 ?_
      refine ln_ge (tgt := 88) hx hb d_Rr_readNumber_13 (by decide) (by omega) (by omega) (fun c_4 => ?_) (fun c_4 => ?_)
      · skip
        refine lv_iload hx hb d_Rr_readNumber_88 (lv_at hl 4 rfl) ?_
        refine lz_le (tgt := 102) hx hb d_Rr_readNumber_90 (by decide) (by omega) (fun c_5 => ?_) (fun c_5 => ?_)
        · skip
          refine lv_iconst (v := (-1)) hx hb d_Rr_readNumber_102 (by decide) ?_
          rw [← hQ]
          exact gc_iret hx hb hr hlk hP hS d_Rr_readNumber_103 ⟨rfl, Or.inr ⟨pv, (by rw [← hrn]; (repeat (first | rw [if_pos (by omega)] | rw [if_neg (by omega)]))), (by omega), rfl, rfl⟩⟩
        · skip
          refine lv_iload_n hx hb d_Rr_readNumber_93 rfl (lv_at hl 3 rfl) ?_
          refine lv_iload_n hx hb d_Rr_readNumber_94 rfl (lv_at hl 2 rfl) ?_
          refine ln_lt (tgt := 102) hx hb d_Rr_readNumber_95 (by decide) (by omega) (by omega) (fun c_6 => ?_) (fun c_6 => ?_)
          · skip
            refine lv_iconst (v := (-1)) hx hb d_Rr_readNumber_102 (by decide) ?_
            rw [← hQ]
            exact gc_iret hx hb hr hlk hP hS d_Rr_readNumber_103 ⟨rfl, Or.inr ⟨pv, (by rw [← hrn]; (repeat (first | rw [if_pos (by omega)] | rw [if_neg (by omega)]))), (by omega), rfl, rfl⟩⟩
          · skip
            refine lv_iload_n hx hb d_Rr_readNumber_98 rfl (lv_at hl 3 rfl) ?_
            refine lv_goto (tgt := 103) hx hb d_Rr_readNumber_99 (by decide) ?_
            rw [← hQ]
            exact gc_iret hx hb hr hlk hP hS d_Rr_readNumber_103 ⟨rfl, Or.inl ⟨nu, pv, (by rw [← hrn]; (repeat (first | rw [if_pos (by omega)] | rw [if_neg (by omega)]))), (by omega), (by omega), rfl, rfl⟩⟩
      · skip
        refine lv_aload_n hx hb d_Rr_readNumber_16 rfl (lv_at hl 1 rfl) ?_
        refine lv_aload_n hx hb d_Rr_readNumber_17 rfl (lv_at hl 0 rfl) ?_
        refine gm_get (C := R_Rr) (T := F_Rr) (n := 1) hx hb htl i_Rr hown hK hP h_3 rfl 0 (by decide) (htl _ k_47) (fun _ h => h) rfl d_Rr_readNumber_18 ?_
        refine gc_V (q := (R_Li, F_Li, 2)) (n := 1) [.int (nI pv)] [] hx hb hml hown hts hK hN hX hP hS (c_Li_at h_1 h_2 (by omega) (by omega) htx hcs) rfl h_1 k_379 k_380 k_381 k_2 k_382 (by decide +kernel) ⟨by decide, by decide⟩ rfl hl.1 rfl (Nat.le_of_ble_eq_true rfl) d_Rr_readNumber_21 ⟨by decide, by decide⟩ (fun r N1 M_7 H locs hw hP hS => ?_)
        obtain ⟨rfl, hw⟩ := hw
        obtain ⟨rfl, rfl⟩ := hw
        refine W.eq (g2 := F0 m 24 ls [.int (nI (t.getD pv 32))]) rfl ?_
        refine gc_S (n := 1) [.int (nI (t.getD pv 32))] [] hx hb hml hown hts hK hN hX hP hS (c_Rr_isDigit (t.getD pv 32) (by omega)) k_402 k_403 k_3 k_404 (by decide +kernel) ⟨by decide, by decide⟩ rfl hl.1 rfl (Nat.le_of_ble_eq_true rfl) d_Rr_readNumber_24 ⟨by decide, by decide⟩ (fun r N1 M_8 H locs hw hP hS => ?_)
        obtain ⟨rfl, hw⟩ := hw
        rcases hw with ⟨c_9, rfl, rfl⟩ | ⟨c_10, rfl, rfl⟩
        · skip
          refine W.eq (g2 := F0 m 27 ls [.int (nI 1)]) rfl ?_
          refine lv_if_eq (tgt := 88) hx hb d_Rr_readNumber_27 (by decide) (fun q => absurd q (by decide)) (fun _ => ?_)
          refine lv_iload_n hx hb d_Rr_readNumber_30 rfl (lv_at hl 3 rfl) ?_
          refine lv_bipush (v := nI 10) hx hb d_Rr_readNumber_31 (by decide) ?_
          refine lv_imul hx hb d_Rr_readNumber_33 ?_
          rw [show (nI nu) * (nI 10) = nI (nu * 10) from pk_mul _ _]
          refine lv_aload_n hx hb d_Rr_readNumber_34 rfl (lv_at hl 1 rfl) ?_
          refine lv_aload_n hx hb d_Rr_readNumber_35 rfl (lv_at hl 0 rfl) ?_
          refine gm_get (C := R_Rr) (T := F_Rr) (n := 1) hx hb htl i_Rr hown hK hP h_3 rfl 0 (by decide) (htl _ k_47) (fun _ h => h) rfl d_Rr_readNumber_36 ?_
          refine gc_V (q := (R_Li, F_Li, 2)) (n := 1) [.int (nI pv)] [.int (nI (nu * 10))] hx hb hml hown hts hK hN hX hP hS (c_Li_at h_1 h_2 (by omega) (by omega) htx hcs) rfl h_1 k_379 k_380 k_381 k_2 k_382 (by decide +kernel) ⟨by decide, by decide⟩ rfl hl.1 rfl (Nat.le_of_ble_eq_true rfl) d_Rr_readNumber_39 ⟨by decide, by decide⟩ (fun r N1 M_11 H locs hw hP hS => ?_)
          obtain ⟨rfl, hw⟩ := hw
          obtain ⟨rfl, rfl⟩ := hw
          refine W.eq (g2 := F0 m 42 ls [.int (nI (t.getD pv 32)), .int (nI (nu * 10))]) rfl ?_
          refine lv_bipush (v := nI 48) hx hb d_Rr_readNumber_42 (by decide) ?_
          refine lv_isub hx hb d_Rr_readNumber_44 ?_
          rw [show (nI (t.getD pv 32)) - (nI 48) = nI ((t.getD pv 32) - 48) from pk_sub (by omega)]
          refine lv_iadd hx hb d_Rr_readNumber_45 ?_
          rw [show (nI (nu * 10)) + (nI ((t.getD pv 32) - 48)) = nI ((nu * 10) + ((t.getD pv 32) - 48)) from nI_add _ _]
          refine lv_istore_n (lv' := [(3, .int (nI ((nu * 10) + ((t.getD pv 32) - 48)))), (0, .ref y), (1, .ref z), (2, .int (nI ls0)), (4, .int (nI dg))]) hx hb d_Rr_readNumber_46 rfl hl (by decide) rfl (fun ls hl => ?_)
          refine lv_iinc (v := nI (dg + 1)) (lv' := [(4, .int (nI (dg + 1))), (3, .int (nI ((nu * 10) + ((t.getD pv 32) - 48)))), (0, .ref y), (1, .ref z), (2, .int (nI ls0))]) hx hb d_Rr_readNumber_47 hl (k := 4) rfl (nI_1 dg) (by decide) rfl (fun ls hl => ?_)
          refine lv_iload hx hb d_Rr_readNumber_50 (lv_at hl 0 rfl) ?_
          refine lv_iconst (v := nI 3) hx hb d_Rr_readNumber_52 (by decide) ?_
          refine ln_gt (tgt := 73) hx hb d_Rr_readNumber_53 (by decide) (by omega) (by omega) (fun c_12 => ?_) (fun c_12 => ?_)
          · skip
            refine lv_iconst (v := (-1)) hx hb d_Rr_readNumber_73 (by decide) ?_
            rw [← hQ]
            exact gc_iret hx hb hr hlk hP hS d_Rr_readNumber_74 ⟨rfl, Or.inr ⟨pv, (by rw [← hrn]; (repeat (first | rw [if_pos (by omega)] | rw [if_neg (by omega)]))), (by omega), rfl, rfl⟩⟩
          · skip
            refine lv_iload_n hx hb d_Rr_readNumber_56 rfl (lv_at hl 1 rfl) ?_
            refine lv_sipush (v := nI 255) hx hb d_Rr_readNumber_57 (by decide) ?_
            refine ln_gt (tgt := 73) hx hb d_Rr_readNumber_60 (by decide) (by omega) (by omega) (fun c_13 => ?_) (fun c_13 => ?_)
            · skip
              refine lv_iconst (v := (-1)) hx hb d_Rr_readNumber_73 (by decide) ?_
              rw [← hQ]
              exact gc_iret hx hb hr hlk hP hS d_Rr_readNumber_74 ⟨rfl, Or.inr ⟨pv, (by rw [← hrn]; (repeat (first | rw [if_pos (by omega)] | rw [if_neg (by omega)]))), (by omega), rfl, rfl⟩⟩
            · skip
              refine lv_iload_n hx hb d_Rr_readNumber_63 rfl (lv_at hl 1 rfl) ?_
              refine lv_iload hx hb d_Rr_readNumber_64 (lv_at hl 0 rfl) ?_
              refine gc_S (n := 2) [.int (nI ((nu * 10) + ((t.getD pv 32) - 48))), .int (nI (dg + 1))] [] hx hb hml hown hts hK hN hX hP hS (c_Rr_greatestFrom ((nu * 10) + ((t.getD pv 32) - 48)) (dg + 1) (by omega) (⟨by omega, by omega⟩)) k_405 k_406 k_3 k_407 (by decide +kernel) ⟨by decide, by decide⟩ rfl hl.1 rfl (Nat.le_of_ble_eq_true rfl) d_Rr_readNumber_66 ⟨by decide, by decide⟩ (fun r N1 M_14 H locs hw hP hS => ?_)
              obtain ⟨rfl, hw⟩ := hw
              obtain ⟨c_15, rfl, rfl⟩ := hw
              refine W.eq (g2 := F0 m 69 ls [.int (nI (gF ((nu * 10) + ((t.getD pv 32) - 48)) (dg + 1)))]) rfl ?_
              refine lv_iload_n hx hb d_Rr_readNumber_69 rfl (lv_at hl 4 rfl) ?_
              refine ln_ge (tgt := 75) hx hb d_Rr_readNumber_70 (by decide) (by omega) (by omega) (fun c_16 => ?_) (fun c_16 => ?_)
              · skip
                refine lv_aload_n hx hb d_Rr_readNumber_75 rfl (lv_at hl 2 rfl) ?_
                refine lv_dup hx hb d_Rr_readNumber_76 rfl ?_
                refine gm_get (C := R_Rr) (T := F_Rr) (n := 1) hx hb htl i_Rr hown hK hP h_3 rfl 0 (by decide) (htl _ k_47) (fun _ h => h) rfl d_Rr_readNumber_77 ?_
                refine lv_iconst (v := nI 1) hx hb d_Rr_readNumber_80 (by decide) ?_
                refine lv_iadd hx hb d_Rr_readNumber_81 ?_
                rw [show (nI pv) + (nI 1) = nI (pv + 1) from nI_add _ _]
                refine gm_put (C := R_Rr) (T := F_Rr) (n := 1) (ty := .int) hx hb htl i_Rr t_Rr tk_Rr n_Rr hown hK hP hS h_3 rfl 0 (by decide) (htl _ k_47) (fun _ h => h) rfl (tk_Rr 0 (by decide)) rfl rfl (Nat.le_of_ble_eq_true rfl) d_Rr_readNumber_82 (fun H locs hP hS => ?_)
                have he_17 : gm_up (gm_up M y (.inr (7, [.int (nI pv)]))) y (.inr (7, [.int (nI (pv + 1))])) = gm_up M y (.inr (7, [.int (nI (pv + 1))])) := gm_up_up _ _ _ _
                have hP := Eq.mp (congrArg (fun Z => gm_P D cls A N Z H) he_17) hP
                have h_18 := (congrFun he_17 _).symm.trans (gm_pass (k := y) (y := .inr (7, [.int (nI (pv + 1))])) h_1 (gm_ne h_1 h_3 (fun h => by cases h)))
                have h_19 := (congrFun he_17 _).symm.trans (gm_pass (k := y) (y := .inr (7, [.int (nI (pv + 1))])) h_2 (gm_ne h_2 h_3 (fun h => by cases h)))
                have h_20 := (congrFun he_17 _).symm.trans (gm_up_self (gm_up M y (.inr (7, [.int (nI pv)]))) y (.inr (7, [.int (nI (pv + 1))])))
                refine lv_goto (tgt := 5) hx hb d_Rr_readNumber_85 (by decide) ?_
                exact ih_5 (pv + 1) (nu * 10 + (t.getD pv 32 - 48)) (dg + 1) ls _ _ (⟨by omega, by omega, by omega⟩) (by rw [← hrn, if_pos (by omega), if_neg (by omega), show 4 - (dg + 1) = 3 - dg from (by omega)]) (by omega) hP hS (lv_sub hl [2, 3, 4, 1, 0] rfl)
              · skip
                refine lv_iconst (v := (-1)) hx hb d_Rr_readNumber_73 (by decide) ?_
                rw [← hQ]
                exact gc_iret hx hb hr hlk hP hS d_Rr_readNumber_74 ⟨rfl, Or.inr ⟨pv, (by rw [← hrn]; (repeat (first | rw [if_pos (by omega)] | rw [if_neg (by omega)]))), (by omega), rfl, rfl⟩⟩
        · skip
          refine W.eq (g2 := F0 m 27 ls [.int (nI 0)]) rfl ?_
          refine lv_if_eq (tgt := 88) hx hb d_Rr_readNumber_27 (by decide) (fun _ => ?_) (fun q => absurd q (by decide))
          refine lv_iload hx hb d_Rr_readNumber_88 (lv_at hl 4 rfl) ?_
          refine lz_le (tgt := 102) hx hb d_Rr_readNumber_90 (by decide) (by omega) (fun c_21 => ?_) (fun c_21 => ?_)
          · skip
            refine lv_iconst (v := (-1)) hx hb d_Rr_readNumber_102 (by decide) ?_
            rw [← hQ]
            exact gc_iret hx hb hr hlk hP hS d_Rr_readNumber_103 ⟨rfl, Or.inr ⟨pv, (by rw [← hrn]; (repeat (first | rw [if_pos (by omega)] | rw [if_neg (by omega)]))), (by omega), rfl, rfl⟩⟩
          · skip
            refine lv_iload_n hx hb d_Rr_readNumber_93 rfl (lv_at hl 3 rfl) ?_
            refine lv_iload_n hx hb d_Rr_readNumber_94 rfl (lv_at hl 2 rfl) ?_
            refine ln_lt (tgt := 102) hx hb d_Rr_readNumber_95 (by decide) (by omega) (by omega) (fun c_22 => ?_) (fun c_22 => ?_)
            · skip
              refine lv_iconst (v := (-1)) hx hb d_Rr_readNumber_102 (by decide) ?_
              rw [← hQ]
              exact gc_iret hx hb hr hlk hP hS d_Rr_readNumber_103 ⟨rfl, Or.inr ⟨pv, (by rw [← hrn]; (repeat (first | rw [if_pos (by omega)] | rw [if_neg (by omega)]))), (by omega), rfl, rfl⟩⟩
            · skip
              refine lv_iload_n hx hb d_Rr_readNumber_98 rfl (lv_at hl 3 rfl) ?_
              refine lv_goto (tgt := 103) hx hb d_Rr_readNumber_99 (by decide) ?_
              rw [← hQ]
              exact gc_iret hx hb hr hlk hP hS d_Rr_readNumber_103 ⟨rfl, Or.inl ⟨nu, pv, (by rw [← hrn]; (repeat (first | rw [if_pos (by omega)] | rw [if_neg (by omega)]))), (by omega), (by omega), rfl, rfl⟩⟩
  exact loop_5 (_ + 1) p0 0 0 ls _ _ (⟨by omega, by omega, by omega⟩) rfl (Nat.lt_succ_self _) (by rw [gm_fix e1]; exact hP) hS (lv_sub hl [2, 3, 4, 1, 0] rfl)
end C18
