section C37
variable {l : Launch} {D : va_G} {ca : Nat → ClassId} {A : Nat → Prop} {G : gG} {N : Nat} {M : gm_M}

theorem inr_nI {n g : Nat} (hn : n < 2 ^ 31) (hg : g < 2 ^ 31) : inr (nI n) g ↔ n ≤ g := ⟨fun ⟨j, hj, e⟩ => by rw [(nI_eq hn (by omega)).mp e]; exact hj, fun h => ⟨n, h, rfl⟩⟩
/-- the reference's flows are the flows -/
def relF (n : Nat) (fl : Nat → Nat → Nat) (mq : Nat → Nat → Nat) : Prop := ∀ i, i < n → mq 0 i = fl i 4 ∧ mq 1 i = fl i 0 ∧ mq 2 i = fl i 1 / 256 ∧ mq 3 i = fl i 1 % 256 ∧ mq 4 i = fl i 2 / 256 ∧ mq 5 i = fl i 2 % 256 ∧ mq 6 i = fl i 3 ∧ mq 7 i = fl i 5 ∧ mq 8 i = 1 - fl i 6 ∧ (fl i 4 = 4 → mq 9 i = 1 - fl i 7)
def relE (n : Nat) (pp po pi : Nat → Nat) (me : Nat → Nat → Nat) : Prop := ∀ k, k < n → me 0 k = pp k ∧ me 1 k = po k ∧ me 2 k = pi k / 256 ∧ me 3 k = pi k % 256
def mkQ (a0 a1 a2 a3 a4 a5 a6 a7 a8 a9 : Nat → Nat) : Nat → Nat → Nat := fun q => [a0, a1, a2, a3, a4, a5, a6, a7, a8, a9].getD q a9
def mkE (a0 a1 a2 a3 : Nat → Nat) : Nat → Nat → Nat := fun q => [a0, a1, a2, a3].getD q a3
def shQ (mq : Nat → Nat → Nat) (k n : Nat) : Nat → Nat → Nat := fun q => shf (mq q) k (n - 1)
theorem relF_sh {n k : Nat} {fl : Nat → Nat → Nat} {mq : Nat → Nat → Nat} (x : Nat → Nat) (h : relF n fl mq) (hk : k < n) : relF (n - 1) (rot (va_up fl k x) k n) (shQ mq k n) := by
  intro i hi
  have e : ∀ q, shQ mq k n q i = mq q (if k ≤ i then i + 1 else i) := by
    intro q
    show shf (mq q) k (n - 1) i = _
    unfold shf
    by_cases z : k ≤ i
    · rw [if_pos ⟨z, hi⟩, if_pos z]
    · rw [if_neg (by omega), if_neg z]
  have e2 : rot (va_up fl k x) k n i = fl (if k ≤ i then i + 1 else i) := by
    unfold rot
    rw [if_neg (by omega)]
    by_cases z : k ≤ i
    · rw [if_pos ⟨z, hi⟩, if_pos z, va_up_ne _ _ (by omega)]
    · rw [if_neg (by omega), if_neg z, va_up_ne _ _ (by omega)]
  rw [e2]
  simp only [e]
  refine h _ ?_
  split <;> omega
theorem va_up_id {f : Nat → Nat → Nat} (k : Nat) : va_up f k (f k) = f := by
  funext i
  by_cases q : i = k
  · subst q; rw [va_up_self]
  · rw [va_up_ne _ _ q]
theorem relF_rm {n k : Nat} {fl : Nat → Nat → Nat} {mq : Nat → Nat → Nat} (h : relF n fl mq) (hk : k < n) : relF (n - 1) (rot fl k n) (shQ mq k n) := by
  have := relF_sh (fl k) h hk
  rw [va_up_id] at this
  exact this
theorem relE_add {n a b c : Nat} {pp po pi : Nat → Nat} {me : Nat → Nat → Nat} {x y : Nat} (h : relE n pp po pi me) (hx : c / 256 = x) (hy : c % 256 = y) : relE (n + 1) (va_up pp n a) (va_up po n b) (va_up pi n c) (mkE (va_up (me 0) n a) (va_up (me 1) n b) (va_up (me 2) n x) (va_up (me 3) n y)) := by
  intro k hk
  show va_up (me 0) n a k = _ ∧ va_up (me 1) n b k = _ ∧ va_up (me 2) n x k = _ ∧ va_up (me 3) n y k = _
  by_cases q : k = n
  · subst q; simp only [va_up_self]; exact ⟨by first | rfl | trivial, by first | rfl | trivial, hx.symm, hy.symm⟩
  · simp only [va_up_ne _ _ q]; exact h k (by omega)
theorem relE_rm {n i : Nat} {pp po pi : Nat → Nat} {me : Nat → Nat → Nat} (h : relE n pp po pi me) (hi : i < n) : relE (n - 1) (va_up pp i (pp (n - 1))) (va_up po i (po (n - 1))) (va_up pi i (pi (n - 1))) (mkE (va_up (me 0) i (me 0 (n - 1))) (va_up (me 1) i (me 1 (n - 1))) (va_up (me 2) i (me 2 (n - 1))) (va_up (me 3) i (me 3 (n - 1)))) := by
  intro k hk
  show va_up (me 0) i _ k = _ ∧ va_up (me 1) i _ k = _ ∧ va_up (me 2) i _ k = _ ∧ va_up (me 3) i _ k = _
  by_cases q : k = i
  · subst q; simp only [va_up_self]; exact h (n - 1) (by omega)
  · simp only [va_up_ne _ _ q]; exact h k (by omega)
theorem mpE_has {ne : Nat} {pp po pi : Nat → Nat} {nf : Nat} {fl : Nat → Nat → Nat} {a b v : Nat} (h : mpE ne pp po pi nf fl a b = some v) : hasP ne pp po nf fl a b := by
  unfold mpE at h
  rcases ffP_is (fun k => pp k = a ∧ po k = b) ne with ⟨k, e, h1, h2, _⟩ | ⟨e, h1⟩
  · exact Or.inl ⟨k, h1, h2⟩
  · rw [e] at h
    rcases ffP_is (fun k => fl k 0 = a ∧ fl k 3 = b) nf with ⟨k, e2, h3, h4, _⟩ | ⟨e2, h3⟩
    · exact Or.inr ⟨k, h3, h4⟩
    · rw [e2] at h; cases h
theorem mpE_no {ne : Nat} {pp po pi : Nat → Nat} {nf : Nat} {fl : Nat → Nat → Nat} {a b : Nat} (h : mpE ne pp po pi nf fl a b = none) : ¬ hasP ne pp po nf fl a b := by
  unfold mpE at h
  rcases ffP_is (fun k => pp k = a ∧ po k = b) ne with ⟨k, e, h1, h2, _⟩ | ⟨e, h1⟩
  · rw [e] at h; cases h
  · rw [e] at h
    rcases ffP_is (fun k => fl k 0 = a ∧ fl k 3 = b) nf with ⟨k, e2, h3, h4, _⟩ | ⟨e2, h3⟩
    · rw [e2] at h; cases h
    · rintro (⟨k, q1, q2⟩ | ⟨k, q1, q2⟩)
      · exact h1 k q1 q2
      · exact h3 k q1 q2
theorem mpP_has {ne : Nat} {pp po pi : Nat → Nat} {nf : Nat} {fl : Nat → Nat → Nat} {a b v : Nat} (h : mpP ne pp po pi nf fl a b = some v) : hasI ne pp pi nf fl a b := by
  unfold mpP at h
  rcases ffP_is (fun k => pp k = a ∧ pi k = b) ne with ⟨k, e, h1, h2, _⟩ | ⟨e, h1⟩
  · exact Or.inl ⟨k, h1, h2⟩
  · rw [e] at h
    rcases ffP_is (fun k => fl k 0 = a ∧ fl k 1 = b) nf with ⟨k, e2, h3, h4, _⟩ | ⟨e2, h3⟩
    · exact Or.inr ⟨k, h3, h4⟩
    · rw [e2] at h; cases h
theorem mpP_no {ne : Nat} {pp po pi : Nat → Nat} {nf : Nat} {fl : Nat → Nat → Nat} {a b : Nat} (h : mpP ne pp po pi nf fl a b = none) : ¬ hasI ne pp pi nf fl a b := by
  unfold mpP at h
  rcases ffP_is (fun k => pp k = a ∧ pi k = b) ne with ⟨k, e, h1, h2, _⟩ | ⟨e, h1⟩
  · rw [e] at h; cases h
  · rw [e] at h
    rcases ffP_is (fun k => fl k 0 = a ∧ fl k 1 = b) nf with ⟨k, e2, h3, h4, _⟩ | ⟨e2, h3⟩
    · rw [e2] at h; cases h
    · rintro (⟨k, q1, q2⟩ | ⟨k, q1, q2⟩)
      · exact h1 k q1 q2
      · exact h3 k q1 q2
set_option maxHeartbeats 4000000 in
set_option maxRecDepth 100000 in
theorem c_Mo_isByte (y : Int32) : gC l D ca A G y_Mo_isByte (.code y_Mo_isByte b_Mo_isByte 1 (some .boolean)) ({ frames := 0, cells := 0, slots := 0, locals := 0 }) N M [.int y] gm_i (fun (r : Int32) (N1 : Nat) (M1 : gm_M) => N = N1 ∧ (((inr y 255) ∧ M = M1 ∧ nI 1 = r) ∨ ((¬ inr y 255) ∧ M = M1 ∧ nI 0 = r))) := by
  refine gm_body (by decide) (Nat.le_of_ble_eq_true rfl) (fun p e s m below meth c ls hx hb hr hts hown hlk hml hnm hP hK hN hX hS hl => ?_)
  have htl : ∀ w ∈ LW, w.before _ s = true := fun w h => hts w (List.mem_cons_of_mem _ h)
  have hown : s.vm.findClass "PacketGateModel" = some m.cls := hown
  have hl : lv_has ls 1 [(0, .int y)] := hl
  refine lv_iload_n hx hb d_Mo_isByte_0 rfl (lv_at hl 0 rfl) ?_
  refine lv_if_lt (tgt := 15) hx hb d_Mo_isByte_1 (by decide) (fun c_1 => ?_) (fun c_1 => ?_)
  · skip
    refine lv_iconst (v := nI 0) hx hb d_Mo_isByte_15 (by decide) ?_
    exact gc_zret hx hb hr hlk hP hS d_Mo_isByte_16 rfl ⟨rfl, Or.inr ⟨not_inr (by decide) (fun q => q.1 c_1), rfl, rfl⟩⟩
  · skip
    refine lv_iload_n hx hb d_Mo_isByte_4 rfl (lv_at hl 0 rfl) ?_
    refine lv_sipush (v := nI 255) hx hb d_Mo_isByte_5 (by decide) ?_
    refine lv_icmp_gt (tgt := 15) hx hb d_Mo_isByte_8 (by decide) (fun c_2 => ?_) (fun c_2 => ?_)
    · skip
      refine lv_iconst (v := nI 0) hx hb d_Mo_isByte_15 (by decide) ?_
      exact gc_zret hx hb hr hlk hP hS d_Mo_isByte_16 rfl ⟨rfl, Or.inr ⟨not_inr (by decide) (fun q => q.2 c_2), rfl, rfl⟩⟩
    · skip
      refine lv_iconst (v := nI 1) hx hb d_Mo_isByte_11 (by decide) ?_
      refine lv_goto (tgt := 16) hx hb d_Mo_isByte_12 (by decide) ?_
      exact gc_zret hx hb hr hlk hP hS d_Mo_isByte_16 rfl ⟨rfl, Or.inl ⟨in_lift (by decide) ⟨c_1, c_2⟩, rfl, rfl⟩⟩
set_option maxHeartbeats 4000000 in
set_option maxRecDepth 100000 in
theorem c_Mo_isProtocol (y : Int32) : gC l D ca A G y_Mo_isProtocol (.code y_Mo_isProtocol b_Mo_isProtocol 1 (some .boolean)) ({ frames := 0, cells := 0, slots := 0, locals := 0 }) N M [.int y] gm_i (fun (r : Int32) (N1 : Nat) (M1 : gm_M) => N = N1 ∧ (((inr y 2) ∧ M = M1 ∧ nI 1 = r) ∨ ((¬ inr y 2) ∧ M = M1 ∧ nI 0 = r))) := by
  refine gm_body (by decide) (Nat.le_of_ble_eq_true rfl) (fun p e s m below meth c ls hx hb hr hts hown hlk hml hnm hP hK hN hX hS hl => ?_)
  have htl : ∀ w ∈ LW, w.before _ s = true := fun w h => hts w (List.mem_cons_of_mem _ h)
  have hown : s.vm.findClass "PacketGateModel" = some m.cls := hown
  have hl : lv_has ls 1 [(0, .int y)] := hl
  refine lv_iload_n hx hb d_Mo_isProtocol_0 rfl (lv_at hl 0 rfl) ?_
  refine lv_if_lt (tgt := 13) hx hb d_Mo_isProtocol_1 (by decide) (fun c_1 => ?_) (fun c_1 => ?_)
  · skip
    refine lv_iconst (v := nI 0) hx hb d_Mo_isProtocol_13 (by decide) ?_
    exact gc_zret hx hb hr hlk hP hS d_Mo_isProtocol_14 rfl ⟨rfl, Or.inr ⟨not_inr (by decide) (fun q => q.1 c_1), rfl, rfl⟩⟩
  · skip
    refine lv_iload_n hx hb d_Mo_isProtocol_4 rfl (lv_at hl 0 rfl) ?_
    refine lv_iconst (v := nI 2) hx hb d_Mo_isProtocol_5 (by decide) ?_
    refine lv_icmp_gt (tgt := 13) hx hb d_Mo_isProtocol_6 (by decide) (fun c_2 => ?_) (fun c_2 => ?_)
    · skip
      refine lv_iconst (v := nI 0) hx hb d_Mo_isProtocol_13 (by decide) ?_
      exact gc_zret hx hb hr hlk hP hS d_Mo_isProtocol_14 rfl ⟨rfl, Or.inr ⟨not_inr (by decide) (fun q => q.2 c_2), rfl, rfl⟩⟩
    · skip
      refine lv_iconst (v := nI 1) hx hb d_Mo_isProtocol_9 (by decide) ?_
      refine lv_goto (tgt := 14) hx hb d_Mo_isProtocol_10 (by decide) ?_
      exact gc_zret hx hb hr hlk hP hS d_Mo_isProtocol_14 rfl ⟨rfl, Or.inl ⟨in_lift (by decide) ⟨c_1, c_2⟩, rfl, rfl⟩⟩
set_option maxHeartbeats 4000000 in
set_option maxRecDepth 100000 in
theorem c_Mo_inside (y : Int32) : gC l D ca A G y_Mo_inside (.code y_Mo_inside b_Mo_inside 1 (some .boolean)) ({ frames := 0, cells := 0, slots := 0, locals := 0 }) N M [.int y] gm_i (fun (r : Int32) (N1 : Nat) (M1 : gm_M) => N = N1 ∧ (((inr y 127) ∧ M = M1 ∧ nI 1 = r) ∨ ((¬ inr y 127) ∧ M = M1 ∧ nI 0 = r))) := by
  refine gm_body (by decide) (Nat.le_of_ble_eq_true rfl) (fun p e s m below meth c ls hx hb hr hts hown hlk hml hnm hP hK hN hX hS hl => ?_)
  have htl : ∀ w ∈ LW, w.before _ s = true := fun w h => hts w (List.mem_cons_of_mem _ h)
  have hown : s.vm.findClass "PacketGateModel" = some m.cls := hown
  have hl : lv_has ls 1 [(0, .int y)] := hl
  refine lv_iload_n hx hb d_Mo_inside_0 rfl (lv_at hl 0 rfl) ?_
  refine lv_if_lt (tgt := 14) hx hb d_Mo_inside_1 (by decide) (fun c_1 => ?_) (fun c_1 => ?_)
  · skip
    refine lv_iconst (v := nI 0) hx hb d_Mo_inside_14 (by decide) ?_
    exact gc_zret hx hb hr hlk hP hS d_Mo_inside_15 rfl ⟨rfl, Or.inr ⟨not_inr (by decide) (fun q => q.1 c_1), rfl, rfl⟩⟩
  · skip
    refine lv_iload_n hx hb d_Mo_inside_4 rfl (lv_at hl 0 rfl) ?_
    refine lv_bipush (v := nI 127) hx hb d_Mo_inside_5 (by decide) ?_
    refine lv_icmp_gt (tgt := 14) hx hb d_Mo_inside_7 (by decide) (fun c_2 => ?_) (fun c_2 => ?_)
    · skip
      refine lv_iconst (v := nI 0) hx hb d_Mo_inside_14 (by decide) ?_
      exact gc_zret hx hb hr hlk hP hS d_Mo_inside_15 rfl ⟨rfl, Or.inr ⟨not_inr (by decide) (fun q => q.2 c_2), rfl, rfl⟩⟩
    · skip
      refine lv_iconst (v := nI 1) hx hb d_Mo_inside_10 (by decide) ?_
      refine lv_goto (tgt := 15) hx hb d_Mo_inside_11 (by decide) ?_
      exact gc_zret hx hb hr hlk hP hS d_Mo_inside_15 rfl ⟨rfl, Or.inl ⟨in_lift (by decide) ⟨c_1, c_2⟩, rfl, rfl⟩⟩
set_option maxHeartbeats 4000000 in
set_option maxRecDepth 100000 in
theorem c_Mo_outside {a0 : Nat} (ha : a0 < 65536) : gC l D ca A G y_Mo_outside (.code y_Mo_outside b_Mo_outside 1 (some .boolean)) ({ frames := 0, cells := 0, slots := 0, locals := 0 }) N M [.int (nI a0)] gm_i (fun (r : Int32) (N1 : Nat) (M1 : gm_M) => N = N1 ∧ (((127 < a0 ∧ a0 ≤ 255 ∧ a0 ≠ 200) ∧ M = M1 ∧ nI 1 = r) ∨ ((¬ (127 < a0 ∧ a0 ≤ 255 ∧ a0 ≠ 200)) ∧ M = M1 ∧ nI 0 = r))) := by
  refine gm_body (by decide) (Nat.le_of_ble_eq_true rfl) (fun p e s m below meth c ls hx hb hr hts hown hlk hml hnm hP hK hN hX hS hl => ?_)
  have htl : ∀ w ∈ LW, w.before _ s = true := fun w h => hts w (List.mem_cons_of_mem _ h)
  have hown : s.vm.findClass "PacketGateModel" = some m.cls := hown
  have hl : lv_has ls 1 [(0, .int (nI a0))] := hl
  refine lv_iload_n hx hb d_Mo_outside_0 rfl (lv_at hl 0 rfl) ?_
  refine lv_bipush (v := nI 127) hx hb d_Mo_outside_1 (by decide) ?_
  refine ln_le (tgt := 24) hx hb d_Mo_outside_3 (by decide) (by omega) (by omega) (fun c_1 => ?_) (fun c_1 => ?_)
  · skip
    refine lv_iconst (v := nI 0) hx hb d_Mo_outside_24 (by decide) ?_
    exact gc_zret hx hb hr hlk hP hS d_Mo_outside_25 rfl (by first | exact ⟨rfl, Or.inl ⟨(by first | assumption | omega), rfl, rfl⟩⟩ | exact ⟨rfl, Or.inr ⟨(by first | assumption | omega), rfl, rfl⟩⟩)
  · skip
    refine lv_iload_n hx hb d_Mo_outside_6 rfl (lv_at hl 0 rfl) ?_
    refine lv_sipush (v := nI 255) hx hb d_Mo_outside_7 (by decide) ?_
    refine ln_gt (tgt := 24) hx hb d_Mo_outside_10 (by decide) (by omega) (by omega) (fun c_2 => ?_) (fun c_2 => ?_)
    · skip
      refine lv_iconst (v := nI 0) hx hb d_Mo_outside_24 (by decide) ?_
      exact gc_zret hx hb hr hlk hP hS d_Mo_outside_25 rfl (by first | exact ⟨rfl, Or.inl ⟨(by first | assumption | omega), rfl, rfl⟩⟩ | exact ⟨rfl, Or.inr ⟨(by first | assumption | omega), rfl, rfl⟩⟩)
    · skip
      refine lv_iload_n hx hb d_Mo_outside_13 rfl (lv_at hl 0 rfl) ?_
      refine lv_sipush (v := nI 200) hx hb d_Mo_outside_14 (by decide) ?_
      refine ln_eq (tgt := 24) hx hb d_Mo_outside_17 (by decide) (by omega) (by omega) (fun c_3 => ?_) (fun c_3 => ?_)
      · skip
        refine lv_iconst (v := nI 0) hx hb d_Mo_outside_24 (by decide) ?_
        exact gc_zret hx hb hr hlk hP hS d_Mo_outside_25 rfl (by first | exact ⟨rfl, Or.inl ⟨(by first | assumption | omega), rfl, rfl⟩⟩ | exact ⟨rfl, Or.inr ⟨(by first | assumption | omega), rfl, rfl⟩⟩)
      · skip
        refine lv_iconst (v := nI 1) hx hb d_Mo_outside_20 (by decide) ?_
        refine lv_goto (tgt := 25) hx hb d_Mo_outside_21 (by decide) ?_
        exact gc_zret hx hb hr hlk hP hS d_Mo_outside_25 rfl (by first | exact ⟨rfl, Or.inl ⟨(by first | assumption | omega), rfl, rfl⟩⟩ | exact ⟨rfl, Or.inr ⟨(by first | assumption | omega), rfl, rfl⟩⟩)
set_option maxHeartbeats 4000000 in
set_option maxRecDepth 100000 in
theorem c_Mo_portOf {h le nr tl ne nf na an tm cn cs bd lt nt wh : Nat} {bp fx fy : Int32} {me : Nat → Nat → Nat} {mq : Nat → Nat → Nat} {pp po pi : Nat → Nat} {fl : Nat → Nat → Nat} {pr0 b0 a0 p0 : Nat} (eh : M h = some (moO h (nI le) bp (nI nr) (nI wh) (nI tl) (nI ne) (nI nf) (nI na) (nI an) (nI tm) (nI cn) (nI cs) (nI bd) (nI lt) (nI nt) fx fy)) (m10 : M (h + 10) = some (.inl (ca 0, 5, .inl (iN (me 0))))) (m11 : M (h + 11) = some (.inl (ca 0, 5, .inl (iN (me 1))))) (m12 : M (h + 12) = some (.inl (ca 0, 5, .inl (iN (me 2))))) (m13 : M (h + 13) = some (.inl (ca 0, 5, .inl (iN (me 3))))) (m14 : M (h + 14) = some (.inl (ca 0, 17, .inl (iN (mq 0))))) (m15 : M (h + 15) = some (.inl (ca 0, 17, .inl (iN (mq 1))))) (m16 : M (h + 16) = some (.inl (ca 0, 17, .inl (iN (mq 2))))) (m17 : M (h + 17) = some (.inl (ca 0, 17, .inl (iN (mq 3))))) (m18 : M (h + 18) = some (.inl (ca 0, 17, .inl (iN (mq 4))))) (m19 : M (h + 19) = some (.inl (ca 0, 17, .inl (iN (mq 5))))) (m20 : M (h + 20) = some (.inl (ca 0, 17, .inl (iN (mq 6))))) (m21 : M (h + 21) = some (.inl (ca 0, 17, .inl (iN (mq 7))))) (m22 : M (h + 22) = some (.inl (ca 0, 17, .inl (iN (mq 8))))) (m23 : M (h + 23) = some (.inl (ca 0, 17, .inl (iN (mq 9))))) (hRE : relE ne pp po pi me) (hne : ne ≤ 4) (hpp : ∀ k, pp k < 65536) (hpo : ∀ k, po k < 65536) (hpi : ∀ k, pi k < 65536) (hRF : relF nf fl mq) (hnf : nf ≤ 16) (hF : okF fl) (hpr0 : pr0 < 65536) (hb0 : b0 < 65536) (hb1 : b0 / 256 = a0 ∧ b0 % 256 = p0) : gC l D ca A G y_Mo_portOf (.code y_Mo_portOf b_Mo_portOf 5 (some .int)) ({ frames := 0, cells := 0, slots := 0, locals := 0 }) N M [.ref h, .int (nI pr0), .int (nI a0), .int (nI p0)] gm_i (fun (r : Int32) (N1 : Nat) (M1 : gm_M) => N = N1 ∧ ((∃ (v : Nat), (mpP ne pp po pi nf fl pr0 b0 = some v) ∧ (v < 1000000) ∧ M = M1 ∧ nI v = r) ∨ ((mpP ne pp po pi nf fl pr0 b0 = none) ∧ M = M1 ∧ (-1) = r))) := by
  refine gm_body (by decide) (Nat.le_of_ble_eq_true rfl) (fun p e s m below meth c ls hx hb hr hts hown hlk hml hnm hP hK hN hX hS hl => ?_)
  have htl : ∀ w ∈ LW, w.before _ s = true := fun w h => hts w (List.mem_cons_of_mem _ h)
  have hown : s.vm.findClass "PacketGateModel" = some m.cls := hown
  have hl : lv_has ls 5 [(0, .ref h), (1, .int (nI pr0)), (2, .int (nI a0)), (3, .int (nI p0))] := hl
  generalize hQ : MQ below _ _ s _ _ A = Q
  refine lv_iconst (v := nI 0) hx hb d_Mo_portOf_0 (by decide) ?_
  refine lv_istore (lv' := [(4, .int (nI 0)), (0, .ref h), (1, .int (nI pr0)), (2, .int (nI a0)), (3, .int (nI p0))]) hx hb d_Mo_portOf_1 hl (by decide) rfl (fun ls hl => ?_)
  have loop_3 : ∀ (fu : Nat) (i : Nat) (ls : Array Slot) (H : Heap) (locs : List Loc), (i ≤ ne) → (∀ z, z < i → ¬ (pp z = pr0 ∧ pi z = b0)) → (ne - i) < fu → gm_P D cls A N M H → va_S A s.heap H locs → lv_has ls 5 [(0, .ref h), (1, .int (nI pr0)), (2, .int (nI a0)), (3, .int (nI p0)), (4, .int (nI i))] → W p l e ({ frames := 0, cells := 0, slots := 0, locals := 0 }) s m ([.ref h, .int (nI pr0), .int (nI a0), .int (nI p0)] : List Value).toArray below meth c H locs (0) (0) Q (F0 m 3 ls []) := by
    intro fu
    induction fu with
    | zero => intro i ls H locs hi hno1 hk; exact absurd hk (Nat.not_lt_zero _)
    | succ fu ih_3 =>
      intro i ls H locs hi hno1 hk hP hS hl
      refine lv_iload hx hb d_Mo_portOf_3 (lv_at hl 4 rfl) ?_
      refine lv_aload_n hx hb d_Mo_portOf_5 rfl (lv_at hl 0 rfl) ?_
      refine gm_get (C := R_Mo) (T := F_Mo) (n := 44) hx hb htl i_Mo hown hK hP eh rfl 18 (by decide) (htl _ k_761) (fun _ h => h) rfl d_Mo_portOf_6 ?_
      refine ln_ge (tgt := 59) hx hb d_Mo_portOf_9 (by decide) (by omega) (by omega) (fun c_1 => ?_) (fun c_1 => ?_)
      · skip
        refine lv_iconst (v := nI 0) hx hb d_Mo_portOf_59 (by decide) ?_
        refine lv_istore (lv' := [(4, .int (nI 0)), (0, .ref h), (1, .int (nI pr0)), (2, .int (nI a0)), (3, .int (nI p0))]) hx hb d_Mo_portOf_60 hl (by decide) rfl (fun ls hl => ?_)
        have loop_62 : ∀ (fu : Nat) (j : Nat) (ls : Array Slot) (H : Heap) (locs : List Loc), (j ≤ nf) → (∀ z, z < j → ¬ (fl z 0 = pr0 ∧ fl z 1 = b0)) → (nf - j) < fu → gm_P D cls A N M H → va_S A s.heap H locs → lv_has ls 5 [(0, .ref h), (1, .int (nI pr0)), (2, .int (nI a0)), (3, .int (nI p0)), (4, .int (nI j))] → W p l e ({ frames := 0, cells := 0, slots := 0, locals := 0 }) s m ([.ref h, .int (nI pr0), .int (nI a0), .int (nI p0)] : List Value).toArray below meth c H locs (0) (0) Q (F0 m 62 ls []) := by
          intro fu
          induction fu with
          | zero => intro j ls H locs hj hno2 hk; exact absurd hk (Nat.not_lt_zero _)
          | succ fu ih_62 =>
            intro j ls H locs hj hno2 hk hP hS hl
            refine lv_iload hx hb d_Mo_portOf_62 (lv_at hl 4 rfl) ?_
            refine lv_aload_n hx hb d_Mo_portOf_64 rfl (lv_at hl 0 rfl) ?_
            refine gm_get (C := R_Mo) (T := F_Mo) (n := 44) hx hb htl i_Mo hown hK hP eh rfl 29 (by decide) (htl _ k_772) (fun _ h => h) rfl d_Mo_portOf_65 ?_
            refine ln_ge (tgt := 118) hx hb d_Mo_portOf_68 (by decide) (by omega) (by omega) (fun c_2 => ?_) (fun c_2 => ?_)
            · skip
              refine lv_iconst (v := (-1)) hx hb d_Mo_portOf_118 (by decide) ?_
              rw [← hQ]
              exact gc_iret hx hb hr hlk hP hS d_Mo_portOf_119 ⟨rfl, Or.inr ⟨mpP_3 (fun z hz => hno1 z (by omega)) (fun z hz => hno2 z (by omega)), rfl, rfl⟩⟩
            · skip
              refine lv_aload_n hx hb d_Mo_portOf_71 rfl (lv_at hl 0 rfl) ?_
              refine gm_get (C := R_Mo) (T := F_Mo) (n := 44) hx hb htl i_Mo hown hK hP eh rfl 20 (by decide) (htl _ k_763) (fun _ h => h) rfl d_Mo_portOf_72 ?_
              refine lv_iload hx hb d_Mo_portOf_75 (lv_at hl 4 rfl) ?_
              refine gz_iald hx hb hK hP 0 m15 rfl (by omega) (by omega) d_Mo_portOf_77 ?_
              rw [show (mq 1) j = fl j 0 from (hRF j (by omega)).2.1]
              have b_3 := (hF j).2
              refine lv_iload_n hx hb d_Mo_portOf_78 rfl (lv_at hl 1 rfl) ?_
              refine ln_ne (tgt := 112) hx hb d_Mo_portOf_79 (by decide) (by omega) (by omega) (fun c_4 => ?_) (fun c_4 => ?_)
              · skip
                refine lv_iinc (v := nI (j + 1)) (lv' := [(4, .int (nI (j + 1))), (0, .ref h), (1, .int (nI pr0)), (2, .int (nI a0)), (3, .int (nI p0))]) hx hb d_Mo_portOf_112 hl (k := 4) rfl (nI_1 j) (by decide) rfl (fun ls hl => ?_)
                refine lv_goto (tgt := 62) hx hb d_Mo_portOf_115 (by decide) ?_
                exact ih_62 (j + 1) ls _ _ (by omega) (fun z hz => by by_cases q : z = j; subst q; omega; exact hno2 z (by omega)) (by omega) hP hS (lv_sub hl [1, 2, 3, 4, 0] rfl)
              · skip
                refine lv_aload_n hx hb d_Mo_portOf_82 rfl (lv_at hl 0 rfl) ?_
                refine gm_get (C := R_Mo) (T := F_Mo) (n := 44) hx hb htl i_Mo hown hK hP eh rfl 21 (by decide) (htl _ k_764) (fun _ h => h) rfl d_Mo_portOf_83 ?_
                refine lv_iload hx hb d_Mo_portOf_86 (lv_at hl 4 rfl) ?_
                refine gz_iald hx hb hK hP 0 m16 rfl (by omega) (by omega) d_Mo_portOf_88 ?_
                rw [show (mq 2) j = fl j 1 / 256 from (hRF j (by omega)).2.2.1]
                have b_5 := (hF j).2
                refine lv_iload_n hx hb d_Mo_portOf_89 rfl (lv_at hl 2 rfl) ?_
                refine ln_ne (tgt := 112) hx hb d_Mo_portOf_90 (by decide) (by omega) (by omega) (fun c_6 => ?_) (fun c_6 => ?_)
                · skip
                  refine lv_iinc (v := nI (j + 1)) (lv' := [(4, .int (nI (j + 1))), (0, .ref h), (1, .int (nI pr0)), (2, .int (nI a0)), (3, .int (nI p0))]) hx hb d_Mo_portOf_112 hl (k := 4) rfl (nI_1 j) (by decide) rfl (fun ls hl => ?_)
                  refine lv_goto (tgt := 62) hx hb d_Mo_portOf_115 (by decide) ?_
                  exact ih_62 (j + 1) ls _ _ (by omega) (fun z hz => by by_cases q : z = j; subst q; omega; exact hno2 z (by omega)) (by omega) hP hS (lv_sub hl [1, 2, 3, 4, 0] rfl)
                · skip
                  refine lv_aload_n hx hb d_Mo_portOf_93 rfl (lv_at hl 0 rfl) ?_
                  refine gm_get (C := R_Mo) (T := F_Mo) (n := 44) hx hb htl i_Mo hown hK hP eh rfl 22 (by decide) (htl _ k_765) (fun _ h => h) rfl d_Mo_portOf_94 ?_
                  refine lv_iload hx hb d_Mo_portOf_97 (lv_at hl 4 rfl) ?_
                  refine gz_iald hx hb hK hP 0 m17 rfl (by omega) (by omega) d_Mo_portOf_99 ?_
                  rw [show (mq 3) j = fl j 1 % 256 from (hRF j (by omega)).2.2.2.1]
                  have b_7 := (hF j).2
                  refine lv_iload_n hx hb d_Mo_portOf_100 rfl (lv_at hl 3 rfl) ?_
                  refine ln_ne (tgt := 112) hx hb d_Mo_portOf_101 (by decide) (by omega) (by omega) (fun c_8 => ?_) (fun c_8 => ?_)
                  · skip
                    refine lv_iinc (v := nI (j + 1)) (lv' := [(4, .int (nI (j + 1))), (0, .ref h), (1, .int (nI pr0)), (2, .int (nI a0)), (3, .int (nI p0))]) hx hb d_Mo_portOf_112 hl (k := 4) rfl (nI_1 j) (by decide) rfl (fun ls hl => ?_)
                    refine lv_goto (tgt := 62) hx hb d_Mo_portOf_115 (by decide) ?_
                    exact ih_62 (j + 1) ls _ _ (by omega) (fun z hz => by by_cases q : z = j; subst q; omega; exact hno2 z (by omega)) (by omega) hP hS (lv_sub hl [1, 2, 3, 4, 0] rfl)
                  · skip
                    refine lv_aload_n hx hb d_Mo_portOf_104 rfl (lv_at hl 0 rfl) ?_
                    refine gm_get (C := R_Mo) (T := F_Mo) (n := 44) hx hb htl i_Mo hown hK hP eh rfl 25 (by decide) (htl _ k_768) (fun _ h => h) rfl d_Mo_portOf_105 ?_
                    refine lv_iload hx hb d_Mo_portOf_108 (lv_at hl 4 rfl) ?_
                    refine gz_iald hx hb hK hP 0 m20 rfl (by omega) (by omega) d_Mo_portOf_110 ?_
                    rw [show (mq 6) j = fl j 3 from (hRF j (by omega)).2.2.2.2.2.2.1]
                    have b_9 := (hF j).1 3
                    rw [← hQ]
                    exact gc_iret hx hb hr hlk hP hS d_Mo_portOf_111 ⟨rfl, Or.inl ⟨_, mpP_2 (fun z hz => hno1 z (by omega)) (k := j) (by omega) (by omega) hno2, by omega, rfl, rfl⟩⟩
        exact loop_62 (_ + 1) 0 ls _ _ (Nat.zero_le _) (fun z hz => absurd hz (Nat.not_lt_zero _)) (Nat.lt_succ_self _) hP hS (lv_sub hl [1, 2, 3, 4, 0] rfl)
      · skip
        refine lv_aload_n hx hb d_Mo_portOf_12 rfl (lv_at hl 0 rfl) ?_
        refine gm_get (C := R_Mo) (T := F_Mo) (n := 44) hx hb htl i_Mo hown hK hP eh rfl 14 (by decide) (htl _ k_757) (fun _ h => h) rfl d_Mo_portOf_13 ?_
        refine lv_iload hx hb d_Mo_portOf_16 (lv_at hl 4 rfl) ?_
        refine gz_iald hx hb hK hP 0 m10 rfl (by omega) (by omega) d_Mo_portOf_18 ?_
        rw [show (me 0) i = pp i from (hRE i (by omega)).1]
        have b_10 := hpp i
        refine lv_iload_n hx hb d_Mo_portOf_19 rfl (lv_at hl 1 rfl) ?_
        refine ln_ne (tgt := 53) hx hb d_Mo_portOf_20 (by decide) (by omega) (by omega) (fun c_11 => ?_) (fun c_11 => ?_)
        · skip
          refine lv_iinc (v := nI (i + 1)) (lv' := [(4, .int (nI (i + 1))), (0, .ref h), (1, .int (nI pr0)), (2, .int (nI a0)), (3, .int (nI p0))]) hx hb d_Mo_portOf_53 hl (k := 4) rfl (nI_1 i) (by decide) rfl (fun ls hl => ?_)
          refine lv_goto (tgt := 3) hx hb d_Mo_portOf_56 (by decide) ?_
          exact ih_3 (i + 1) ls _ _ (by omega) (fun z hz => by by_cases q : z = i; subst q; omega; exact hno1 z (by omega)) (by omega) hP hS (lv_sub hl [1, 2, 3, 4, 0] rfl)
        · skip
          refine lv_aload_n hx hb d_Mo_portOf_23 rfl (lv_at hl 0 rfl) ?_
          refine gm_get (C := R_Mo) (T := F_Mo) (n := 44) hx hb htl i_Mo hown hK hP eh rfl 16 (by decide) (htl _ k_759) (fun _ h => h) rfl d_Mo_portOf_24 ?_
          refine lv_iload hx hb d_Mo_portOf_27 (lv_at hl 4 rfl) ?_
          refine gz_iald hx hb hK hP 0 m12 rfl (by omega) (by omega) d_Mo_portOf_29 ?_
          rw [show (me 2) i = pi i / 256 from (hRE i (by omega)).2.2.1]
          have b_12 := hpi i
          refine lv_iload_n hx hb d_Mo_portOf_30 rfl (lv_at hl 2 rfl) ?_
          refine ln_ne (tgt := 53) hx hb d_Mo_portOf_31 (by decide) (by omega) (by omega) (fun c_13 => ?_) (fun c_13 => ?_)
          · skip
            refine lv_iinc (v := nI (i + 1)) (lv' := [(4, .int (nI (i + 1))), (0, .ref h), (1, .int (nI pr0)), (2, .int (nI a0)), (3, .int (nI p0))]) hx hb d_Mo_portOf_53 hl (k := 4) rfl (nI_1 i) (by decide) rfl (fun ls hl => ?_)
            refine lv_goto (tgt := 3) hx hb d_Mo_portOf_56 (by decide) ?_
            exact ih_3 (i + 1) ls _ _ (by omega) (fun z hz => by by_cases q : z = i; subst q; omega; exact hno1 z (by omega)) (by omega) hP hS (lv_sub hl [1, 2, 3, 4, 0] rfl)
          · skip
            refine lv_aload_n hx hb d_Mo_portOf_34 rfl (lv_at hl 0 rfl) ?_
            refine gm_get (C := R_Mo) (T := F_Mo) (n := 44) hx hb htl i_Mo hown hK hP eh rfl 17 (by decide) (htl _ k_760) (fun _ h => h) rfl d_Mo_portOf_35 ?_
            refine lv_iload hx hb d_Mo_portOf_38 (lv_at hl 4 rfl) ?_
            refine gz_iald hx hb hK hP 0 m13 rfl (by omega) (by omega) d_Mo_portOf_40 ?_
            rw [show (me 3) i = pi i % 256 from (hRE i (by omega)).2.2.2]
            have b_14 := hpi i
            refine lv_iload_n hx hb d_Mo_portOf_41 rfl (lv_at hl 3 rfl) ?_
            refine ln_ne (tgt := 53) hx hb d_Mo_portOf_42 (by decide) (by omega) (by omega) (fun c_15 => ?_) (fun c_15 => ?_)
            · skip
              refine lv_iinc (v := nI (i + 1)) (lv' := [(4, .int (nI (i + 1))), (0, .ref h), (1, .int (nI pr0)), (2, .int (nI a0)), (3, .int (nI p0))]) hx hb d_Mo_portOf_53 hl (k := 4) rfl (nI_1 i) (by decide) rfl (fun ls hl => ?_)
              refine lv_goto (tgt := 3) hx hb d_Mo_portOf_56 (by decide) ?_
              exact ih_3 (i + 1) ls _ _ (by omega) (fun z hz => by by_cases q : z = i; subst q; omega; exact hno1 z (by omega)) (by omega) hP hS (lv_sub hl [1, 2, 3, 4, 0] rfl)
            · skip
              refine lv_aload_n hx hb d_Mo_portOf_45 rfl (lv_at hl 0 rfl) ?_
              refine gm_get (C := R_Mo) (T := F_Mo) (n := 44) hx hb htl i_Mo hown hK hP eh rfl 15 (by decide) (htl _ k_758) (fun _ h => h) rfl d_Mo_portOf_46 ?_
              refine lv_iload hx hb d_Mo_portOf_49 (lv_at hl 4 rfl) ?_
              refine gz_iald hx hb hK hP 0 m11 rfl (by omega) (by omega) d_Mo_portOf_51 ?_
              rw [show (me 1) i = po i from (hRE i (by omega)).2.1]
              have b_16 := hpo i
              rw [← hQ]
              exact gc_iret hx hb hr hlk hP hS d_Mo_portOf_52 ⟨rfl, Or.inl ⟨_, mpP_1 (k := i) (by omega) (by omega) hno1, by omega, rfl, rfl⟩⟩
  exact loop_3 (_ + 1) 0 ls _ _ (Nat.zero_le _) (fun z hz => absurd hz (Nat.not_lt_zero _)) (Nat.lt_succ_self _) hP hS (lv_sub hl [1, 2, 3, 4, 0] rfl)
set_option maxHeartbeats 4000000 in
set_option maxRecDepth 100000 in
theorem c_Mo_mapped {h le nr tl ne nf na an tm cn cs bd lt nt wh : Nat} {bp fx fy : Int32} {me : Nat → Nat → Nat} {mq : Nat → Nat → Nat} {pp po pi : Nat → Nat} {fl : Nat → Nat → Nat} {pr0 p0 : Nat} (eh : M h = some (moO h (nI le) bp (nI nr) (nI wh) (nI tl) (nI ne) (nI nf) (nI na) (nI an) (nI tm) (nI cn) (nI cs) (nI bd) (nI lt) (nI nt) fx fy)) (m10 : M (h + 10) = some (.inl (ca 0, 5, .inl (iN (me 0))))) (m11 : M (h + 11) = some (.inl (ca 0, 5, .inl (iN (me 1))))) (m12 : M (h + 12) = some (.inl (ca 0, 5, .inl (iN (me 2))))) (m13 : M (h + 13) = some (.inl (ca 0, 5, .inl (iN (me 3))))) (m14 : M (h + 14) = some (.inl (ca 0, 17, .inl (iN (mq 0))))) (m15 : M (h + 15) = some (.inl (ca 0, 17, .inl (iN (mq 1))))) (m16 : M (h + 16) = some (.inl (ca 0, 17, .inl (iN (mq 2))))) (m17 : M (h + 17) = some (.inl (ca 0, 17, .inl (iN (mq 3))))) (m18 : M (h + 18) = some (.inl (ca 0, 17, .inl (iN (mq 4))))) (m19 : M (h + 19) = some (.inl (ca 0, 17, .inl (iN (mq 5))))) (m20 : M (h + 20) = some (.inl (ca 0, 17, .inl (iN (mq 6))))) (m21 : M (h + 21) = some (.inl (ca 0, 17, .inl (iN (mq 7))))) (m22 : M (h + 22) = some (.inl (ca 0, 17, .inl (iN (mq 8))))) (m23 : M (h + 23) = some (.inl (ca 0, 17, .inl (iN (mq 9))))) (hRE : relE ne pp po pi me) (hne : ne ≤ 4) (hpp : ∀ k, pp k < 65536) (hpo : ∀ k, po k < 65536) (hpi : ∀ k, pi k < 65536) (hRF : relF nf fl mq) (hnf : nf ≤ 16) (hF : okF fl) (hpr0 : pr0 < 65536) (hp0 : p0 < 65536) : gC l D ca A G y_Mo_mapped (.code y_Mo_mapped b_Mo_mapped 4 (some .boolean)) ({ frames := 0, cells := 0, slots := 0, locals := 0 }) N M [.ref h, .int (nI pr0), .int (nI p0)] gm_i (fun (r : Int32) (N1 : Nat) (M1 : gm_M) => N = N1 ∧ ((∃ (v : Nat), (mpE ne pp po pi nf fl pr0 p0 = some v) ∧ (v < 65536) ∧ gm_up M h (moO h (nI le) bp (nI nr) (nI wh) (nI tl) (nI ne) (nI nf) (nI na) (nI an) (nI tm) (nI cn) (nI cs) (nI bd) (nI lt) (nI nt) (nI (v / 256)) (nI (v % 256))) = M1 ∧ nI 1 = r) ∨ ((mpE ne pp po pi nf fl pr0 p0 = none) ∧ M = M1 ∧ nI 0 = r))) := by
  refine gm_body (by decide) (Nat.le_of_ble_eq_true rfl) (fun p e s m below meth c ls hx hb hr hts hown hlk hml hnm hP hK hN hX hS hl => ?_)
  have htl : ∀ w ∈ LW, w.before _ s = true := fun w h => hts w (List.mem_cons_of_mem _ h)
  have hown : s.vm.findClass "PacketGateModel" = some m.cls := hown
  have hl : lv_has ls 4 [(0, .ref h), (1, .int (nI pr0)), (2, .int (nI p0))] := hl
  generalize hQ : MQ below _ _ s _ _ A = Q
  refine lv_iconst (v := nI 0) hx hb d_Mo_mapped_0 (by decide) ?_
  refine lv_istore_n (lv' := [(3, .int (nI 0)), (0, .ref h), (1, .int (nI pr0)), (2, .int (nI p0))]) hx hb d_Mo_mapped_1 rfl hl (by decide) rfl (fun ls hl => ?_)
  have loop_2 : ∀ (fu : Nat) (i : Nat) (ls : Array Slot) (H : Heap) (locs : List Loc), (i ≤ ne) → (∀ z, z < i → ¬ (pp z = pr0 ∧ po z = p0)) → (ne - i) < fu → gm_P D cls A N M H → va_S A s.heap H locs → lv_has ls 4 [(0, .ref h), (1, .int (nI pr0)), (2, .int (nI p0)), (3, .int (nI i))] → W p l e ({ frames := 0, cells := 0, slots := 0, locals := 0 }) s m ([.ref h, .int (nI pr0), .int (nI p0)] : List Value).toArray below meth c H locs (0) (0) Q (F0 m 2 ls []) := by
    intro fu
    induction fu with
    | zero => intro i ls H locs hi hno1 hk; exact absurd hk (Nat.not_lt_zero _)
    | succ fu ih_2 =>
      intro i ls H locs hi hno1 hk hP hS hl
      refine lv_iload_n hx hb d_Mo_mapped_2 rfl (lv_at hl 3 rfl) ?_
      refine lv_aload_n hx hb d_Mo_mapped_3 rfl (lv_at hl 0 rfl) ?_
      refine gm_get (C := R_Mo) (T := F_Mo) (n := 44) hx hb htl i_Mo hown hK hP eh rfl 18 (by decide) (htl _ k_761) (fun _ h => h) rfl d_Mo_mapped_4 ?_
      refine ln_ge (tgt := 61) hx hb d_Mo_mapped_7 (by decide) (by omega) (by omega) (fun c_1 => ?_) (fun c_1 => ?_)
      · skip
        refine lv_iconst (v := nI 0) hx hb d_Mo_mapped_61 (by decide) ?_
        refine lv_istore_n (lv' := [(3, .int (nI 0)), (0, .ref h), (1, .int (nI pr0)), (2, .int (nI p0))]) hx hb d_Mo_mapped_62 rfl hl (by decide) rfl (fun ls hl => ?_)
        have loop_63 : ∀ (fu : Nat) (j : Nat) (ls : Array Slot) (H : Heap) (locs : List Loc), (j ≤ nf) → (∀ z, z < j → ¬ (fl z 0 = pr0 ∧ fl z 3 = p0)) → (nf - j) < fu → gm_P D cls A N M H → va_S A s.heap H locs → lv_has ls 4 [(0, .ref h), (1, .int (nI pr0)), (2, .int (nI p0)), (3, .int (nI j))] → W p l e ({ frames := 0, cells := 0, slots := 0, locals := 0 }) s m ([.ref h, .int (nI pr0), .int (nI p0)] : List Value).toArray below meth c H locs (0) (0) Q (F0 m 63 ls []) := by
          intro fu
          induction fu with
          | zero => intro j ls H locs hj hno2 hk; exact absurd hk (Nat.not_lt_zero _)
          | succ fu ih_63 =>
            intro j ls H locs hj hno2 hk hP hS hl
            refine lv_iload_n hx hb d_Mo_mapped_63 rfl (lv_at hl 3 rfl) ?_
            refine lv_aload_n hx hb d_Mo_mapped_64 rfl (lv_at hl 0 rfl) ?_
            refine gm_get (C := R_Mo) (T := F_Mo) (n := 44) hx hb htl i_Mo hown hK hP eh rfl 29 (by decide) (htl _ k_772) (fun _ h => h) rfl d_Mo_mapped_65 ?_
            refine ln_ge (tgt := 122) hx hb d_Mo_mapped_68 (by decide) (by omega) (by omega) (fun c_2 => ?_) (fun c_2 => ?_)
            · skip
              refine lv_iconst (v := nI 0) hx hb d_Mo_mapped_122 (by decide) ?_
              rw [← hQ]
              exact gc_zret hx hb hr hlk hP hS d_Mo_mapped_123 rfl ⟨rfl, Or.inr ⟨mpE_3 (fun z hz => hno1 z (by omega)) (fun z hz => hno2 z (by omega)), rfl, rfl⟩⟩
            · skip
              refine lv_aload_n hx hb d_Mo_mapped_71 rfl (lv_at hl 0 rfl) ?_
              refine gm_get (C := R_Mo) (T := F_Mo) (n := 44) hx hb htl i_Mo hown hK hP eh rfl 20 (by decide) (htl _ k_763) (fun _ h => h) rfl d_Mo_mapped_72 ?_
              refine lv_iload_n hx hb d_Mo_mapped_75 rfl (lv_at hl 3 rfl) ?_
              refine gz_iald hx hb hK hP 0 m15 rfl (by omega) (by omega) d_Mo_mapped_76 ?_
              rw [show (mq 1) j = fl j 0 from (hRF j (by omega)).2.1]
              have b_3 := (hF j).2
              refine lv_iload_n hx hb d_Mo_mapped_77 rfl (lv_at hl 1 rfl) ?_
              refine ln_ne (tgt := 116) hx hb d_Mo_mapped_78 (by decide) (by omega) (by omega) (fun c_4 => ?_) (fun c_4 => ?_)
              · skip
                refine lv_iinc (v := nI (j + 1)) (lv' := [(3, .int (nI (j + 1))), (0, .ref h), (1, .int (nI pr0)), (2, .int (nI p0))]) hx hb d_Mo_mapped_116 hl (k := 3) rfl (nI_1 j) (by decide) rfl (fun ls hl => ?_)
                refine lv_goto (tgt := 63) hx hb d_Mo_mapped_119 (by decide) ?_
                exact ih_63 (j + 1) ls _ _ (by omega) (fun z hz => by by_cases q : z = j; subst q; omega; exact hno2 z (by omega)) (by omega) hP hS (lv_sub hl [1, 2, 3, 0] rfl)
              · skip
                refine lv_aload_n hx hb d_Mo_mapped_81 rfl (lv_at hl 0 rfl) ?_
                refine gm_get (C := R_Mo) (T := F_Mo) (n := 44) hx hb htl i_Mo hown hK hP eh rfl 25 (by decide) (htl _ k_768) (fun _ h => h) rfl d_Mo_mapped_82 ?_
                refine lv_iload_n hx hb d_Mo_mapped_85 rfl (lv_at hl 3 rfl) ?_
                refine gz_iald hx hb hK hP 0 m20 rfl (by omega) (by omega) d_Mo_mapped_86 ?_
                rw [show (mq 6) j = fl j 3 from (hRF j (by omega)).2.2.2.2.2.2.1]
                have b_5 := (hF j).1 3
                refine lv_iload_n hx hb d_Mo_mapped_87 rfl (lv_at hl 2 rfl) ?_
                refine ln_eq (tgt := 94) hx hb d_Mo_mapped_88 (by decide) (by omega) (by omega) (fun c_6 => ?_) (fun c_6 => ?_)
                · skip
                  refine lv_aload_n hx hb d_Mo_mapped_94 rfl (lv_at hl 0 rfl) ?_
                  refine lv_aload_n hx hb d_Mo_mapped_95 rfl (lv_at hl 0 rfl) ?_
                  refine gm_get (C := R_Mo) (T := F_Mo) (n := 44) hx hb htl i_Mo hown hK hP eh rfl 21 (by decide) (htl _ k_764) (fun _ h => h) rfl d_Mo_mapped_96 ?_
                  refine lv_iload_n hx hb d_Mo_mapped_99 rfl (lv_at hl 3 rfl) ?_
                  refine gz_iald hx hb hK hP 0 m16 rfl (by omega) (by omega) d_Mo_mapped_100 ?_
                  rw [show (mq 2) j = fl j 1 / 256 from (hRF j (by omega)).2.2.1]
                  have b_7 := (hF j).2
                  refine gm_put (C := R_Mo) (T := F_Mo) (n := 44) (ty := .int) hx hb htl i_Mo t_Mo tk_Mo n_Mo hown hK hP hS eh rfl 42 (by decide) (htl _ k_785) (fun _ h => h) rfl (tk_Mo 42 (by decide)) rfl rfl (Nat.le_of_ble_eq_true rfl) d_Mo_mapped_101 (fun H locs hP hS => ?_)
                  have hP : gm_P D cls A N (gm_up M h (moO h (nI le) bp (nI nr) (nI wh) (nI tl) (nI ne) (nI nf) (nI na) (nI an) (nI tm) (nI cn) (nI cs) (nI bd) (nI lt) (nI nt) (nI (fl j 1 / 256)) fy)) H := hP
                  have h_8 := gm_pass (k := h) (y := moO h (nI le) bp (nI nr) (nI wh) (nI tl) (nI ne) (nI nf) (nI na) (nI an) (nI tm) (nI cn) (nI cs) (nI bd) (nI lt) (nI nt) (nI (fl j 1 / 256)) fy) m10 (gm_ne m10 eh (fun h => by cases h))
                  have h_9 := gm_pass (k := h) (y := moO h (nI le) bp (nI nr) (nI wh) (nI tl) (nI ne) (nI nf) (nI na) (nI an) (nI tm) (nI cn) (nI cs) (nI bd) (nI lt) (nI nt) (nI (fl j 1 / 256)) fy) m11 (gm_ne m11 eh (fun h => by cases h))
                  have h_10 := gm_pass (k := h) (y := moO h (nI le) bp (nI nr) (nI wh) (nI tl) (nI ne) (nI nf) (nI na) (nI an) (nI tm) (nI cn) (nI cs) (nI bd) (nI lt) (nI nt) (nI (fl j 1 / 256)) fy) m12 (gm_ne m12 eh (fun h => by cases h))
                  have h_11 := gm_pass (k := h) (y := moO h (nI le) bp (nI nr) (nI wh) (nI tl) (nI ne) (nI nf) (nI na) (nI an) (nI tm) (nI cn) (nI cs) (nI bd) (nI lt) (nI nt) (nI (fl j 1 / 256)) fy) m13 (gm_ne m13 eh (fun h => by cases h))
                  have h_12 := gm_pass (k := h) (y := moO h (nI le) bp (nI nr) (nI wh) (nI tl) (nI ne) (nI nf) (nI na) (nI an) (nI tm) (nI cn) (nI cs) (nI bd) (nI lt) (nI nt) (nI (fl j 1 / 256)) fy) m14 (gm_ne m14 eh (fun h => by cases h))
                  have h_13 := gm_pass (k := h) (y := moO h (nI le) bp (nI nr) (nI wh) (nI tl) (nI ne) (nI nf) (nI na) (nI an) (nI tm) (nI cn) (nI cs) (nI bd) (nI lt) (nI nt) (nI (fl j 1 / 256)) fy) m15 (gm_ne m15 eh (fun h => by cases h))
                  have h_14 := gm_pass (k := h) (y := moO h (nI le) bp (nI nr) (nI wh) (nI tl) (nI ne) (nI nf) (nI na) (nI an) (nI tm) (nI cn) (nI cs) (nI bd) (nI lt) (nI nt) (nI (fl j 1 / 256)) fy) m16 (gm_ne m16 eh (fun h => by cases h))
                  have h_15 := gm_pass (k := h) (y := moO h (nI le) bp (nI nr) (nI wh) (nI tl) (nI ne) (nI nf) (nI na) (nI an) (nI tm) (nI cn) (nI cs) (nI bd) (nI lt) (nI nt) (nI (fl j 1 / 256)) fy) m17 (gm_ne m17 eh (fun h => by cases h))
                  have h_16 := gm_pass (k := h) (y := moO h (nI le) bp (nI nr) (nI wh) (nI tl) (nI ne) (nI nf) (nI na) (nI an) (nI tm) (nI cn) (nI cs) (nI bd) (nI lt) (nI nt) (nI (fl j 1 / 256)) fy) m18 (gm_ne m18 eh (fun h => by cases h))
                  have h_17 := gm_pass (k := h) (y := moO h (nI le) bp (nI nr) (nI wh) (nI tl) (nI ne) (nI nf) (nI na) (nI an) (nI tm) (nI cn) (nI cs) (nI bd) (nI lt) (nI nt) (nI (fl j 1 / 256)) fy) m19 (gm_ne m19 eh (fun h => by cases h))
                  have h_18 := gm_pass (k := h) (y := moO h (nI le) bp (nI nr) (nI wh) (nI tl) (nI ne) (nI nf) (nI na) (nI an) (nI tm) (nI cn) (nI cs) (nI bd) (nI lt) (nI nt) (nI (fl j 1 / 256)) fy) m20 (gm_ne m20 eh (fun h => by cases h))
                  have h_19 := gm_pass (k := h) (y := moO h (nI le) bp (nI nr) (nI wh) (nI tl) (nI ne) (nI nf) (nI na) (nI an) (nI tm) (nI cn) (nI cs) (nI bd) (nI lt) (nI nt) (nI (fl j 1 / 256)) fy) m21 (gm_ne m21 eh (fun h => by cases h))
                  have h_20 := gm_pass (k := h) (y := moO h (nI le) bp (nI nr) (nI wh) (nI tl) (nI ne) (nI nf) (nI na) (nI an) (nI tm) (nI cn) (nI cs) (nI bd) (nI lt) (nI nt) (nI (fl j 1 / 256)) fy) m22 (gm_ne m22 eh (fun h => by cases h))
                  have h_21 := gm_pass (k := h) (y := moO h (nI le) bp (nI nr) (nI wh) (nI tl) (nI ne) (nI nf) (nI na) (nI an) (nI tm) (nI cn) (nI cs) (nI bd) (nI lt) (nI nt) (nI (fl j 1 / 256)) fy) m23 (gm_ne m23 eh (fun h => by cases h))
                  have h_22 := gm_up_self M h (moO h (nI le) bp (nI nr) (nI wh) (nI tl) (nI ne) (nI nf) (nI na) (nI an) (nI tm) (nI cn) (nI cs) (nI bd) (nI lt) (nI nt) (nI (fl j 1 / 256)) fy)
                  refine lv_aload_n hx hb d_Mo_mapped_104 rfl (lv_at hl 0 rfl) ?_
                  refine lv_aload_n hx hb d_Mo_mapped_105 rfl (lv_at hl 0 rfl) ?_
                  refine gm_get (C := R_Mo) (T := F_Mo) (n := 44) hx hb htl i_Mo hown hK hP h_22 rfl 22 (by decide) (htl _ k_765) (fun _ h => h) rfl d_Mo_mapped_106 ?_
                  refine lv_iload_n hx hb d_Mo_mapped_109 rfl (lv_at hl 3 rfl) ?_
                  refine gz_iald hx hb hK hP 0 h_15 rfl (by omega) (by omega) d_Mo_mapped_110 ?_
                  rw [show (mq 3) j = fl j 1 % 256 from (hRF j (by omega)).2.2.2.1]
                  have b_23 := (hF j).2
                  refine gm_put (C := R_Mo) (T := F_Mo) (n := 44) (ty := .int) hx hb htl i_Mo t_Mo tk_Mo n_Mo hown hK hP hS h_22 rfl 43 (by decide) (htl _ k_786) (fun _ h => h) rfl (tk_Mo 43 (by decide)) rfl rfl (Nat.le_of_ble_eq_true rfl) d_Mo_mapped_111 (fun H locs hP hS => ?_)
                  have he_24 : gm_up (gm_up M h (moO h (nI le) bp (nI nr) (nI wh) (nI tl) (nI ne) (nI nf) (nI na) (nI an) (nI tm) (nI cn) (nI cs) (nI bd) (nI lt) (nI nt) (nI (fl j 1 / 256)) fy)) h (moO h (nI le) bp (nI nr) (nI wh) (nI tl) (nI ne) (nI nf) (nI na) (nI an) (nI tm) (nI cn) (nI cs) (nI bd) (nI lt) (nI nt) (nI (fl j 1 / 256)) (nI (fl j 1 % 256))) = gm_up M h (moO h (nI le) bp (nI nr) (nI wh) (nI tl) (nI ne) (nI nf) (nI na) (nI an) (nI tm) (nI cn) (nI cs) (nI bd) (nI lt) (nI nt) (nI (fl j 1 / 256)) (nI (fl j 1 % 256))) := gm_up_up _ _ _ _
                  have hP := Eq.mp (congrArg (fun Z => gm_P D cls A N Z H) he_24) hP
                  have h_25 := (congrFun he_24 _).symm.trans (gm_pass (k := h) (y := moO h (nI le) bp (nI nr) (nI wh) (nI tl) (nI ne) (nI nf) (nI na) (nI an) (nI tm) (nI cn) (nI cs) (nI bd) (nI lt) (nI nt) (nI (fl j 1 / 256)) (nI (fl j 1 % 256))) h_8 (gm_ne h_8 h_22 (fun h => by cases h)))
                  have h_26 := (congrFun he_24 _).symm.trans (gm_pass (k := h) (y := moO h (nI le) bp (nI nr) (nI wh) (nI tl) (nI ne) (nI nf) (nI na) (nI an) (nI tm) (nI cn) (nI cs) (nI bd) (nI lt) (nI nt) (nI (fl j 1 / 256)) (nI (fl j 1 % 256))) h_9 (gm_ne h_9 h_22 (fun h => by cases h)))
                  have h_27 := (congrFun he_24 _).symm.trans (gm_pass (k := h) (y := moO h (nI le) bp (nI nr) (nI wh) (nI tl) (nI ne) (nI nf) (nI na) (nI an) (nI tm) (nI cn) (nI cs) (nI bd) (nI lt) (nI nt) (nI (fl j 1 / 256)) (nI (fl j 1 % 256))) h_10 (gm_ne h_10 h_22 (fun h => by cases h)))
                  have h_28 := (congrFun he_24 _).symm.trans (gm_pass (k := h) (y := moO h (nI le) bp (nI nr) (nI wh) (nI tl) (nI ne) (nI nf) (nI na) (nI an) (nI tm) (nI cn) (nI cs) (nI bd) (nI lt) (nI nt) (nI (fl j 1 / 256)) (nI (fl j 1 % 256))) h_11 (gm_ne h_11 h_22 (fun h => by cases h)))
                  have h_29 := (congrFun he_24 _).symm.trans (gm_pass (k := h) (y := moO h (nI le) bp (nI nr) (nI wh) (nI tl) (nI ne) (nI nf) (nI na) (nI an) (nI tm) (nI cn) (nI cs) (nI bd) (nI lt) (nI nt) (nI (fl j 1 / 256)) (nI (fl j 1 % 256))) h_12 (gm_ne h_12 h_22 (fun h => by cases h)))
                  have h_30 := (congrFun he_24 _).symm.trans (gm_pass (k := h) (y := moO h (nI le) bp (nI nr) (nI wh) (nI tl) (nI ne) (nI nf) (nI na) (nI an) (nI tm) (nI cn) (nI cs) (nI bd) (nI lt) (nI nt) (nI (fl j 1 / 256)) (nI (fl j 1 % 256))) h_13 (gm_ne h_13 h_22 (fun h => by cases h)))
                  have h_31 := (congrFun he_24 _).symm.trans (gm_pass (k := h) (y := moO h (nI le) bp (nI nr) (nI wh) (nI tl) (nI ne) (nI nf) (nI na) (nI an) (nI tm) (nI cn) (nI cs) (nI bd) (nI lt) (nI nt) (nI (fl j 1 / 256)) (nI (fl j 1 % 256))) h_14 (gm_ne h_14 h_22 (fun h => by cases h)))
                  have h_32 := (congrFun he_24 _).symm.trans (gm_pass (k := h) (y := moO h (nI le) bp (nI nr) (nI wh) (nI tl) (nI ne) (nI nf) (nI na) (nI an) (nI tm) (nI cn) (nI cs) (nI bd) (nI lt) (nI nt) (nI (fl j 1 / 256)) (nI (fl j 1 % 256))) h_15 (gm_ne h_15 h_22 (fun h => by cases h)))
                  have h_33 := (congrFun he_24 _).symm.trans (gm_pass (k := h) (y := moO h (nI le) bp (nI nr) (nI wh) (nI tl) (nI ne) (nI nf) (nI na) (nI an) (nI tm) (nI cn) (nI cs) (nI bd) (nI lt) (nI nt) (nI (fl j 1 / 256)) (nI (fl j 1 % 256))) h_16 (gm_ne h_16 h_22 (fun h => by cases h)))
                  have h_34 := (congrFun he_24 _).symm.trans (gm_pass (k := h) (y := moO h (nI le) bp (nI nr) (nI wh) (nI tl) (nI ne) (nI nf) (nI na) (nI an) (nI tm) (nI cn) (nI cs) (nI bd) (nI lt) (nI nt) (nI (fl j 1 / 256)) (nI (fl j 1 % 256))) h_17 (gm_ne h_17 h_22 (fun h => by cases h)))
                  have h_35 := (congrFun he_24 _).symm.trans (gm_pass (k := h) (y := moO h (nI le) bp (nI nr) (nI wh) (nI tl) (nI ne) (nI nf) (nI na) (nI an) (nI tm) (nI cn) (nI cs) (nI bd) (nI lt) (nI nt) (nI (fl j 1 / 256)) (nI (fl j 1 % 256))) h_18 (gm_ne h_18 h_22 (fun h => by cases h)))
                  have h_36 := (congrFun he_24 _).symm.trans (gm_pass (k := h) (y := moO h (nI le) bp (nI nr) (nI wh) (nI tl) (nI ne) (nI nf) (nI na) (nI an) (nI tm) (nI cn) (nI cs) (nI bd) (nI lt) (nI nt) (nI (fl j 1 / 256)) (nI (fl j 1 % 256))) h_19 (gm_ne h_19 h_22 (fun h => by cases h)))
                  have h_37 := (congrFun he_24 _).symm.trans (gm_pass (k := h) (y := moO h (nI le) bp (nI nr) (nI wh) (nI tl) (nI ne) (nI nf) (nI na) (nI an) (nI tm) (nI cn) (nI cs) (nI bd) (nI lt) (nI nt) (nI (fl j 1 / 256)) (nI (fl j 1 % 256))) h_20 (gm_ne h_20 h_22 (fun h => by cases h)))
                  have h_38 := (congrFun he_24 _).symm.trans (gm_pass (k := h) (y := moO h (nI le) bp (nI nr) (nI wh) (nI tl) (nI ne) (nI nf) (nI na) (nI an) (nI tm) (nI cn) (nI cs) (nI bd) (nI lt) (nI nt) (nI (fl j 1 / 256)) (nI (fl j 1 % 256))) h_21 (gm_ne h_21 h_22 (fun h => by cases h)))
                  have h_39 := (congrFun he_24 _).symm.trans (gm_up_self (gm_up M h (moO h (nI le) bp (nI nr) (nI wh) (nI tl) (nI ne) (nI nf) (nI na) (nI an) (nI tm) (nI cn) (nI cs) (nI bd) (nI lt) (nI nt) (nI (fl j 1 / 256)) fy)) h (moO h (nI le) bp (nI nr) (nI wh) (nI tl) (nI ne) (nI nf) (nI na) (nI an) (nI tm) (nI cn) (nI cs) (nI bd) (nI lt) (nI nt) (nI (fl j 1 / 256)) (nI (fl j 1 % 256))))
                  refine lv_iconst (v := nI 1) hx hb d_Mo_mapped_114 (by decide) ?_
                  rw [← hQ]
                  exact gc_zret hx hb hr hlk hP hS d_Mo_mapped_115 rfl ⟨rfl, Or.inl ⟨_, mpE_2 (fun z hz => hno1 z (by omega)) (k := j) (by omega) (by omega) hno2, by omega, rfl, rfl⟩⟩
                · skip
                  refine lv_goto (tgt := 116) hx hb d_Mo_mapped_91 (by decide) ?_
                  refine lv_iinc (v := nI (j + 1)) (lv' := [(3, .int (nI (j + 1))), (0, .ref h), (1, .int (nI pr0)), (2, .int (nI p0))]) hx hb d_Mo_mapped_116 hl (k := 3) rfl (nI_1 j) (by decide) rfl (fun ls hl => ?_)
                  refine lv_goto (tgt := 63) hx hb d_Mo_mapped_119 (by decide) ?_
                  exact ih_63 (j + 1) ls _ _ (by omega) (fun z hz => by by_cases q : z = j; subst q; omega; exact hno2 z (by omega)) (by omega) hP hS (lv_sub hl [1, 2, 3, 0] rfl)
        exact loop_63 (_ + 1) 0 ls _ _ (Nat.zero_le _) (fun z hz => absurd hz (Nat.not_lt_zero _)) (Nat.lt_succ_self _) hP hS (lv_sub hl [1, 2, 3, 0] rfl)
      · skip
        refine lv_aload_n hx hb d_Mo_mapped_10 rfl (lv_at hl 0 rfl) ?_
        refine gm_get (C := R_Mo) (T := F_Mo) (n := 44) hx hb htl i_Mo hown hK hP eh rfl 14 (by decide) (htl _ k_757) (fun _ h => h) rfl d_Mo_mapped_11 ?_
        refine lv_iload_n hx hb d_Mo_mapped_14 rfl (lv_at hl 3 rfl) ?_
        refine gz_iald hx hb hK hP 0 m10 rfl (by omega) (by omega) d_Mo_mapped_15 ?_
        rw [show (me 0) i = pp i from (hRE i (by omega)).1]
        have b_40 := hpp i
        refine lv_iload_n hx hb d_Mo_mapped_16 rfl (lv_at hl 1 rfl) ?_
        refine ln_ne (tgt := 55) hx hb d_Mo_mapped_17 (by decide) (by omega) (by omega) (fun c_41 => ?_) (fun c_41 => ?_)
        · skip
          refine lv_iinc (v := nI (i + 1)) (lv' := [(3, .int (nI (i + 1))), (0, .ref h), (1, .int (nI pr0)), (2, .int (nI p0))]) hx hb d_Mo_mapped_55 hl (k := 3) rfl (nI_1 i) (by decide) rfl (fun ls hl => ?_)
          refine lv_goto (tgt := 2) hx hb d_Mo_mapped_58 (by decide) ?_
          exact ih_2 (i + 1) ls _ _ (by omega) (fun z hz => by by_cases q : z = i; subst q; omega; exact hno1 z (by omega)) (by omega) hP hS (lv_sub hl [1, 2, 3, 0] rfl)
        · skip
          refine lv_aload_n hx hb d_Mo_mapped_20 rfl (lv_at hl 0 rfl) ?_
          refine gm_get (C := R_Mo) (T := F_Mo) (n := 44) hx hb htl i_Mo hown hK hP eh rfl 15 (by decide) (htl _ k_758) (fun _ h => h) rfl d_Mo_mapped_21 ?_
          refine lv_iload_n hx hb d_Mo_mapped_24 rfl (lv_at hl 3 rfl) ?_
          refine gz_iald hx hb hK hP 0 m11 rfl (by omega) (by omega) d_Mo_mapped_25 ?_
          rw [show (me 1) i = po i from (hRE i (by omega)).2.1]
          have b_42 := hpo i
          refine lv_iload_n hx hb d_Mo_mapped_26 rfl (lv_at hl 2 rfl) ?_
          refine ln_eq (tgt := 33) hx hb d_Mo_mapped_27 (by decide) (by omega) (by omega) (fun c_43 => ?_) (fun c_43 => ?_)
          · skip
            refine lv_aload_n hx hb d_Mo_mapped_33 rfl (lv_at hl 0 rfl) ?_
            refine lv_aload_n hx hb d_Mo_mapped_34 rfl (lv_at hl 0 rfl) ?_
            refine gm_get (C := R_Mo) (T := F_Mo) (n := 44) hx hb htl i_Mo hown hK hP eh rfl 16 (by decide) (htl _ k_759) (fun _ h => h) rfl d_Mo_mapped_35 ?_
            refine lv_iload_n hx hb d_Mo_mapped_38 rfl (lv_at hl 3 rfl) ?_
            refine gz_iald hx hb hK hP 0 m12 rfl (by omega) (by omega) d_Mo_mapped_39 ?_
            rw [show (me 2) i = pi i / 256 from (hRE i (by omega)).2.2.1]
            have b_44 := hpi i
            refine gm_put (C := R_Mo) (T := F_Mo) (n := 44) (ty := .int) hx hb htl i_Mo t_Mo tk_Mo n_Mo hown hK hP hS eh rfl 42 (by decide) (htl _ k_785) (fun _ h => h) rfl (tk_Mo 42 (by decide)) rfl rfl (Nat.le_of_ble_eq_true rfl) d_Mo_mapped_40 (fun H locs hP hS => ?_)
            have hP : gm_P D cls A N (gm_up M h (moO h (nI le) bp (nI nr) (nI wh) (nI tl) (nI ne) (nI nf) (nI na) (nI an) (nI tm) (nI cn) (nI cs) (nI bd) (nI lt) (nI nt) (nI (pi i / 256)) fy)) H := hP
            have h_45 := gm_pass (k := h) (y := moO h (nI le) bp (nI nr) (nI wh) (nI tl) (nI ne) (nI nf) (nI na) (nI an) (nI tm) (nI cn) (nI cs) (nI bd) (nI lt) (nI nt) (nI (pi i / 256)) fy) m10 (gm_ne m10 eh (fun h => by cases h))
            have h_46 := gm_pass (k := h) (y := moO h (nI le) bp (nI nr) (nI wh) (nI tl) (nI ne) (nI nf) (nI na) (nI an) (nI tm) (nI cn) (nI cs) (nI bd) (nI lt) (nI nt) (nI (pi i / 256)) fy) m11 (gm_ne m11 eh (fun h => by cases h))
            have h_47 := gm_pass (k := h) (y := moO h (nI le) bp (nI nr) (nI wh) (nI tl) (nI ne) (nI nf) (nI na) (nI an) (nI tm) (nI cn) (nI cs) (nI bd) (nI lt) (nI nt) (nI (pi i / 256)) fy) m12 (gm_ne m12 eh (fun h => by cases h))
            have h_48 := gm_pass (k := h) (y := moO h (nI le) bp (nI nr) (nI wh) (nI tl) (nI ne) (nI nf) (nI na) (nI an) (nI tm) (nI cn) (nI cs) (nI bd) (nI lt) (nI nt) (nI (pi i / 256)) fy) m13 (gm_ne m13 eh (fun h => by cases h))
            have h_49 := gm_pass (k := h) (y := moO h (nI le) bp (nI nr) (nI wh) (nI tl) (nI ne) (nI nf) (nI na) (nI an) (nI tm) (nI cn) (nI cs) (nI bd) (nI lt) (nI nt) (nI (pi i / 256)) fy) m14 (gm_ne m14 eh (fun h => by cases h))
            have h_50 := gm_pass (k := h) (y := moO h (nI le) bp (nI nr) (nI wh) (nI tl) (nI ne) (nI nf) (nI na) (nI an) (nI tm) (nI cn) (nI cs) (nI bd) (nI lt) (nI nt) (nI (pi i / 256)) fy) m15 (gm_ne m15 eh (fun h => by cases h))
            have h_51 := gm_pass (k := h) (y := moO h (nI le) bp (nI nr) (nI wh) (nI tl) (nI ne) (nI nf) (nI na) (nI an) (nI tm) (nI cn) (nI cs) (nI bd) (nI lt) (nI nt) (nI (pi i / 256)) fy) m16 (gm_ne m16 eh (fun h => by cases h))
            have h_52 := gm_pass (k := h) (y := moO h (nI le) bp (nI nr) (nI wh) (nI tl) (nI ne) (nI nf) (nI na) (nI an) (nI tm) (nI cn) (nI cs) (nI bd) (nI lt) (nI nt) (nI (pi i / 256)) fy) m17 (gm_ne m17 eh (fun h => by cases h))
            have h_53 := gm_pass (k := h) (y := moO h (nI le) bp (nI nr) (nI wh) (nI tl) (nI ne) (nI nf) (nI na) (nI an) (nI tm) (nI cn) (nI cs) (nI bd) (nI lt) (nI nt) (nI (pi i / 256)) fy) m18 (gm_ne m18 eh (fun h => by cases h))
            have h_54 := gm_pass (k := h) (y := moO h (nI le) bp (nI nr) (nI wh) (nI tl) (nI ne) (nI nf) (nI na) (nI an) (nI tm) (nI cn) (nI cs) (nI bd) (nI lt) (nI nt) (nI (pi i / 256)) fy) m19 (gm_ne m19 eh (fun h => by cases h))
            have h_55 := gm_pass (k := h) (y := moO h (nI le) bp (nI nr) (nI wh) (nI tl) (nI ne) (nI nf) (nI na) (nI an) (nI tm) (nI cn) (nI cs) (nI bd) (nI lt) (nI nt) (nI (pi i / 256)) fy) m20 (gm_ne m20 eh (fun h => by cases h))
            have h_56 := gm_pass (k := h) (y := moO h (nI le) bp (nI nr) (nI wh) (nI tl) (nI ne) (nI nf) (nI na) (nI an) (nI tm) (nI cn) (nI cs) (nI bd) (nI lt) (nI nt) (nI (pi i / 256)) fy) m21 (gm_ne m21 eh (fun h => by cases h))
            have h_57 := gm_pass (k := h) (y := moO h (nI le) bp (nI nr) (nI wh) (nI tl) (nI ne) (nI nf) (nI na) (nI an) (nI tm) (nI cn) (nI cs) (nI bd) (nI lt) (nI nt) (nI (pi i / 256)) fy) m22 (gm_ne m22 eh (fun h => by cases h))
            have h_58 := gm_pass (k := h) (y := moO h (nI le) bp (nI nr) (nI wh) (nI tl) (nI ne) (nI nf) (nI na) (nI an) (nI tm) (nI cn) (nI cs) (nI bd) (nI lt) (nI nt) (nI (pi i / 256)) fy) m23 (gm_ne m23 eh (fun h => by cases h))
            have h_59 := gm_up_self M h (moO h (nI le) bp (nI nr) (nI wh) (nI tl) (nI ne) (nI nf) (nI na) (nI an) (nI tm) (nI cn) (nI cs) (nI bd) (nI lt) (nI nt) (nI (pi i / 256)) fy)
            refine lv_aload_n hx hb d_Mo_mapped_43 rfl (lv_at hl 0 rfl) ?_
            refine lv_aload_n hx hb d_Mo_mapped_44 rfl (lv_at hl 0 rfl) ?_
            refine gm_get (C := R_Mo) (T := F_Mo) (n := 44) hx hb htl i_Mo hown hK hP h_59 rfl 17 (by decide) (htl _ k_760) (fun _ h => h) rfl d_Mo_mapped_45 ?_
            refine lv_iload_n hx hb d_Mo_mapped_48 rfl (lv_at hl 3 rfl) ?_
            refine gz_iald hx hb hK hP 0 h_48 rfl (by omega) (by omega) d_Mo_mapped_49 ?_
            rw [show (me 3) i = pi i % 256 from (hRE i (by omega)).2.2.2]
            have b_60 := hpi i
            refine gm_put (C := R_Mo) (T := F_Mo) (n := 44) (ty := .int) hx hb htl i_Mo t_Mo tk_Mo n_Mo hown hK hP hS h_59 rfl 43 (by decide) (htl _ k_786) (fun _ h => h) rfl (tk_Mo 43 (by decide)) rfl rfl (Nat.le_of_ble_eq_true rfl) d_Mo_mapped_50 (fun H locs hP hS => ?_)
            have he_61 : gm_up (gm_up M h (moO h (nI le) bp (nI nr) (nI wh) (nI tl) (nI ne) (nI nf) (nI na) (nI an) (nI tm) (nI cn) (nI cs) (nI bd) (nI lt) (nI nt) (nI (pi i / 256)) fy)) h (moO h (nI le) bp (nI nr) (nI wh) (nI tl) (nI ne) (nI nf) (nI na) (nI an) (nI tm) (nI cn) (nI cs) (nI bd) (nI lt) (nI nt) (nI (pi i / 256)) (nI (pi i % 256))) = gm_up M h (moO h (nI le) bp (nI nr) (nI wh) (nI tl) (nI ne) (nI nf) (nI na) (nI an) (nI tm) (nI cn) (nI cs) (nI bd) (nI lt) (nI nt) (nI (pi i / 256)) (nI (pi i % 256))) := gm_up_up _ _ _ _
            have hP := Eq.mp (congrArg (fun Z => gm_P D cls A N Z H) he_61) hP
            have h_62 := (congrFun he_61 _).symm.trans (gm_pass (k := h) (y := moO h (nI le) bp (nI nr) (nI wh) (nI tl) (nI ne) (nI nf) (nI na) (nI an) (nI tm) (nI cn) (nI cs) (nI bd) (nI lt) (nI nt) (nI (pi i / 256)) (nI (pi i % 256))) h_45 (gm_ne h_45 h_59 (fun h => by cases h)))
            have h_63 := (congrFun he_61 _).symm.trans (gm_pass (k := h) (y := moO h (nI le) bp (nI nr) (nI wh) (nI tl) (nI ne) (nI nf) (nI na) (nI an) (nI tm) (nI cn) (nI cs) (nI bd) (nI lt) (nI nt) (nI (pi i / 256)) (nI (pi i % 256))) h_46 (gm_ne h_46 h_59 (fun h => by cases h)))
            have h_64 := (congrFun he_61 _).symm.trans (gm_pass (k := h) (y := moO h (nI le) bp (nI nr) (nI wh) (nI tl) (nI ne) (nI nf) (nI na) (nI an) (nI tm) (nI cn) (nI cs) (nI bd) (nI lt) (nI nt) (nI (pi i / 256)) (nI (pi i % 256))) h_47 (gm_ne h_47 h_59 (fun h => by cases h)))
            have h_65 := (congrFun he_61 _).symm.trans (gm_pass (k := h) (y := moO h (nI le) bp (nI nr) (nI wh) (nI tl) (nI ne) (nI nf) (nI na) (nI an) (nI tm) (nI cn) (nI cs) (nI bd) (nI lt) (nI nt) (nI (pi i / 256)) (nI (pi i % 256))) h_48 (gm_ne h_48 h_59 (fun h => by cases h)))
            have h_66 := (congrFun he_61 _).symm.trans (gm_pass (k := h) (y := moO h (nI le) bp (nI nr) (nI wh) (nI tl) (nI ne) (nI nf) (nI na) (nI an) (nI tm) (nI cn) (nI cs) (nI bd) (nI lt) (nI nt) (nI (pi i / 256)) (nI (pi i % 256))) h_49 (gm_ne h_49 h_59 (fun h => by cases h)))
            have h_67 := (congrFun he_61 _).symm.trans (gm_pass (k := h) (y := moO h (nI le) bp (nI nr) (nI wh) (nI tl) (nI ne) (nI nf) (nI na) (nI an) (nI tm) (nI cn) (nI cs) (nI bd) (nI lt) (nI nt) (nI (pi i / 256)) (nI (pi i % 256))) h_50 (gm_ne h_50 h_59 (fun h => by cases h)))
            have h_68 := (congrFun he_61 _).symm.trans (gm_pass (k := h) (y := moO h (nI le) bp (nI nr) (nI wh) (nI tl) (nI ne) (nI nf) (nI na) (nI an) (nI tm) (nI cn) (nI cs) (nI bd) (nI lt) (nI nt) (nI (pi i / 256)) (nI (pi i % 256))) h_51 (gm_ne h_51 h_59 (fun h => by cases h)))
            have h_69 := (congrFun he_61 _).symm.trans (gm_pass (k := h) (y := moO h (nI le) bp (nI nr) (nI wh) (nI tl) (nI ne) (nI nf) (nI na) (nI an) (nI tm) (nI cn) (nI cs) (nI bd) (nI lt) (nI nt) (nI (pi i / 256)) (nI (pi i % 256))) h_52 (gm_ne h_52 h_59 (fun h => by cases h)))
            have h_70 := (congrFun he_61 _).symm.trans (gm_pass (k := h) (y := moO h (nI le) bp (nI nr) (nI wh) (nI tl) (nI ne) (nI nf) (nI na) (nI an) (nI tm) (nI cn) (nI cs) (nI bd) (nI lt) (nI nt) (nI (pi i / 256)) (nI (pi i % 256))) h_53 (gm_ne h_53 h_59 (fun h => by cases h)))
            have h_71 := (congrFun he_61 _).symm.trans (gm_pass (k := h) (y := moO h (nI le) bp (nI nr) (nI wh) (nI tl) (nI ne) (nI nf) (nI na) (nI an) (nI tm) (nI cn) (nI cs) (nI bd) (nI lt) (nI nt) (nI (pi i / 256)) (nI (pi i % 256))) h_54 (gm_ne h_54 h_59 (fun h => by cases h)))
            have h_72 := (congrFun he_61 _).symm.trans (gm_pass (k := h) (y := moO h (nI le) bp (nI nr) (nI wh) (nI tl) (nI ne) (nI nf) (nI na) (nI an) (nI tm) (nI cn) (nI cs) (nI bd) (nI lt) (nI nt) (nI (pi i / 256)) (nI (pi i % 256))) h_55 (gm_ne h_55 h_59 (fun h => by cases h)))
            have h_73 := (congrFun he_61 _).symm.trans (gm_pass (k := h) (y := moO h (nI le) bp (nI nr) (nI wh) (nI tl) (nI ne) (nI nf) (nI na) (nI an) (nI tm) (nI cn) (nI cs) (nI bd) (nI lt) (nI nt) (nI (pi i / 256)) (nI (pi i % 256))) h_56 (gm_ne h_56 h_59 (fun h => by cases h)))
            have h_74 := (congrFun he_61 _).symm.trans (gm_pass (k := h) (y := moO h (nI le) bp (nI nr) (nI wh) (nI tl) (nI ne) (nI nf) (nI na) (nI an) (nI tm) (nI cn) (nI cs) (nI bd) (nI lt) (nI nt) (nI (pi i / 256)) (nI (pi i % 256))) h_57 (gm_ne h_57 h_59 (fun h => by cases h)))
            have h_75 := (congrFun he_61 _).symm.trans (gm_pass (k := h) (y := moO h (nI le) bp (nI nr) (nI wh) (nI tl) (nI ne) (nI nf) (nI na) (nI an) (nI tm) (nI cn) (nI cs) (nI bd) (nI lt) (nI nt) (nI (pi i / 256)) (nI (pi i % 256))) h_58 (gm_ne h_58 h_59 (fun h => by cases h)))
            have h_76 := (congrFun he_61 _).symm.trans (gm_up_self (gm_up M h (moO h (nI le) bp (nI nr) (nI wh) (nI tl) (nI ne) (nI nf) (nI na) (nI an) (nI tm) (nI cn) (nI cs) (nI bd) (nI lt) (nI nt) (nI (pi i / 256)) fy)) h (moO h (nI le) bp (nI nr) (nI wh) (nI tl) (nI ne) (nI nf) (nI na) (nI an) (nI tm) (nI cn) (nI cs) (nI bd) (nI lt) (nI nt) (nI (pi i / 256)) (nI (pi i % 256))))
            refine lv_iconst (v := nI 1) hx hb d_Mo_mapped_53 (by decide) ?_
            rw [← hQ]
            exact gc_zret hx hb hr hlk hP hS d_Mo_mapped_54 rfl ⟨rfl, Or.inl ⟨_, mpE_1 (k := i) (by omega) (by omega) hno1, by omega, rfl, rfl⟩⟩
          · skip
            refine lv_goto (tgt := 55) hx hb d_Mo_mapped_30 (by decide) ?_
            refine lv_iinc (v := nI (i + 1)) (lv' := [(3, .int (nI (i + 1))), (0, .ref h), (1, .int (nI pr0)), (2, .int (nI p0))]) hx hb d_Mo_mapped_55 hl (k := 3) rfl (nI_1 i) (by decide) rfl (fun ls hl => ?_)
            refine lv_goto (tgt := 2) hx hb d_Mo_mapped_58 (by decide) ?_
            exact ih_2 (i + 1) ls _ _ (by omega) (fun z hz => by by_cases q : z = i; subst q; omega; exact hno1 z (by omega)) (by omega) hP hS (lv_sub hl [1, 2, 3, 0] rfl)
  exact loop_2 (_ + 1) 0 ls _ _ (Nat.zero_le _) (fun z hz => absurd hz (Nat.not_lt_zero _)) (Nat.lt_succ_self _) hP hS (lv_sub hl [1, 2, 3, 0] rfl)
set_option maxHeartbeats 4000000 in
set_option maxRecDepth 100000 in
theorem c_Mo_expose (x1 x2 x3 x4 : Int32) {h le nr tl ne nf na an tm cn cs bd lt nt wh : Nat} {bp fx fy : Int32} {me : Nat → Nat → Nat} {mq : Nat → Nat → Nat} {pp po pi : Nat → Nat} {fl : Nat → Nat → Nat} (eh : M h = some (moO h (nI le) bp (nI nr) (nI wh) (nI tl) (nI ne) (nI nf) (nI na) (nI an) (nI tm) (nI cn) (nI cs) (nI bd) (nI lt) (nI nt) fx fy)) (m10 : M (h + 10) = some (.inl (ca 0, 5, .inl (iN (me 0))))) (m11 : M (h + 11) = some (.inl (ca 0, 5, .inl (iN (me 1))))) (m12 : M (h + 12) = some (.inl (ca 0, 5, .inl (iN (me 2))))) (m13 : M (h + 13) = some (.inl (ca 0, 5, .inl (iN (me 3))))) (m14 : M (h + 14) = some (.inl (ca 0, 17, .inl (iN (mq 0))))) (m15 : M (h + 15) = some (.inl (ca 0, 17, .inl (iN (mq 1))))) (m16 : M (h + 16) = some (.inl (ca 0, 17, .inl (iN (mq 2))))) (m17 : M (h + 17) = some (.inl (ca 0, 17, .inl (iN (mq 3))))) (m18 : M (h + 18) = some (.inl (ca 0, 17, .inl (iN (mq 4))))) (m19 : M (h + 19) = some (.inl (ca 0, 17, .inl (iN (mq 5))))) (m20 : M (h + 20) = some (.inl (ca 0, 17, .inl (iN (mq 6))))) (m21 : M (h + 21) = some (.inl (ca 0, 17, .inl (iN (mq 7))))) (m22 : M (h + 22) = some (.inl (ca 0, 17, .inl (iN (mq 8))))) (m23 : M (h + 23) = some (.inl (ca 0, 17, .inl (iN (mq 9))))) (hRE : relE ne pp po pi me) (hne : ne ≤ 4) (hpp : ∀ k, pp k < 65536) (hpo : ∀ k, po k < 65536) (hpi : ∀ k, pi k < 65536) (hRF : relF nf fl mq) (hnf : nf ≤ 16) (hF : okF fl) : gC l D ca A G y_Mo_expose (.code y_Mo_expose b_Mo_expose 5 (some .int)) ({ frames := 1, cells := 0, slots := 0, locals := 24 }) N M [.ref h, .int x1, .int x2, .int x3, .int x4] gm_i (fun (r : Int32) (N1 : Nat) (M1 : gm_M) => N = N1 ∧ (((¬ (inr x1 2 ∧ inr x2 99 ∧ inr x3 127 ∧ inr x4 255)) ∧ M = M1 ∧ (-1) = r) ∨ (∃ (n1 : Nat) (n2 : Nat) (n3 : Nat) (n4 : Nat) (u1 : Int32) (u2 : Int32), (x1 = nI n1 ∧ n1 ≤ 2) ∧ (x2 = nI n2 ∧ n2 ≤ 99) ∧ (x3 = nI n3 ∧ n3 ≤ 127) ∧ (x4 = nI n4 ∧ n4 ≤ 255) ∧ (hasP ne pp po nf fl n1 n2 ∨ hasI ne pp pi nf fl n1 (n3 * 256 + n4)) ∧ M1 h = some (moO h (nI le) bp (nI nr) (nI wh) (nI tl) (nI ne) (nI nf) (nI na) (nI an) (nI tm) (nI cn) (nI cs) (nI bd) (nI lt) (nI nt) u1 u2) ∧ (∀ z, z ≠ h → M1 z = M z) ∧ (-6) = r) ∨ (∃ (n1 : Nat) (n2 : Nat) (n3 : Nat) (n4 : Nat), (x1 = nI n1 ∧ n1 ≤ 2) ∧ (x2 = nI n2 ∧ n2 ≤ 99) ∧ (x3 = nI n3 ∧ n3 ≤ 127) ∧ (x4 = nI n4 ∧ n4 ≤ 255) ∧ (¬ (hasP ne pp po nf fl n1 n2 ∨ hasI ne pp pi nf fl n1 (n3 * 256 + n4))) ∧ (ne = 4) ∧ M = M1 ∧ (-3) = r) ∨ (∃ (n1 : Nat) (n2 : Nat) (n3 : Nat) (n4 : Nat) (me1 : Nat → Nat → Nat), (x1 = nI n1 ∧ n1 ≤ 2) ∧ (x2 = nI n2 ∧ n2 ≤ 99) ∧ (x3 = nI n3 ∧ n3 ≤ 127) ∧ (x4 = nI n4 ∧ n4 ≤ 255) ∧ (¬ (hasP ne pp po nf fl n1 n2 ∨ hasI ne pp pi nf fl n1 (n3 * 256 + n4))) ∧ (ne < 4) ∧ (relE (ne + 1) (va_up pp ne n1) (va_up po ne n2) (va_up pi ne (n3 * 256 + n4)) me1) ∧ M1 h = some (moO h (nI le) bp (nI nr) (nI wh) (nI tl) (nI (ne + 1)) (nI nf) (nI na) (nI an) (nI tm) (nI cn) (nI cs) (nI bd) (nI lt) (nI nt) fx fy) ∧ M1 (h + 10) = some (.inl (ca 0, 5, .inl (iN (me1 0)))) ∧ M1 (h + 11) = some (.inl (ca 0, 5, .inl (iN (me1 1)))) ∧ M1 (h + 12) = some (.inl (ca 0, 5, .inl (iN (me1 2)))) ∧ M1 (h + 13) = some (.inl (ca 0, 5, .inl (iN (me1 3)))) ∧ (∀ z, z ≠ h → z ≠ (h + 10) → z ≠ (h + 11) → z ≠ (h + 12) → z ≠ (h + 13) → M1 z = M z) ∧ nI 0 = r))) := by
  refine gm_body (by decide) (Nat.le_of_ble_eq_true rfl) (fun p e s m below meth c ls hx hb hr hts hown hlk hml hnm hP hK hN hX hS hl => ?_)
  have htl : ∀ w ∈ LW, w.before _ s = true := fun w h => hts w (List.mem_cons_of_mem _ h)
  have hown : s.vm.findClass "PacketGateModel" = some m.cls := hown
  have hl : lv_has ls 5 [(0, .ref h), (1, .int x1), (2, .int x2), (3, .int x3), (4, .int x4)] := hl
  generalize hQ : MQ below _ _ s _ _ A = Q
  rcases Classical.em (inr x1 2 ∧ inr x2 99 ∧ inr x3 127 ∧ inr x4 255) with ⟨⟨n1, h1, rfl⟩, ⟨n2, h2, rfl⟩, ⟨n3, h3, rfl⟩, ⟨n4, h4, rfl⟩⟩ | hno
  · skip
    refine lv_iload_n hx hb d_Mo_expose_0 rfl (lv_at hl 1 rfl) ?_
    refine gc_S (n := 1) [.int (nI n1)] [] hx hb hml hown hts hK hN hX hP hS (c_Mo_isProtocol (nI n1)) k_923 k_924 k_10 k_925 (by decide +kernel) ⟨by decide, by decide⟩ rfl hl.1 rfl (Nat.le_of_ble_eq_true rfl) d_Mo_expose_1 ⟨by decide, by decide⟩ (fun r N1 M_1 H locs hw hP hS => ?_)
    obtain ⟨rfl, hw⟩ := hw
    rcases hw with ⟨c_2, rfl, rfl⟩ | ⟨c_3, rfl, rfl⟩
    · skip
      refine W.eq (g2 := F0 m 4 ls [.int (nI 1)]) rfl ?_
      refine lv_if_eq (tgt := 32) hx hb d_Mo_expose_4 (by decide) (fun q => absurd q (by decide)) (fun _ => ?_)
      refine lv_iload_n hx hb d_Mo_expose_7 rfl (lv_at hl 2 rfl) ?_
      refine lz_lt (tgt := 32) hx hb d_Mo_expose_8 (by decide) (by omega) ?_
      refine lv_iload_n hx hb d_Mo_expose_11 rfl (lv_at hl 2 rfl) ?_
      refine lv_bipush (v := nI 99) hx hb d_Mo_expose_12 (by decide) ?_
      refine ln_gt (tgt := 32) hx hb d_Mo_expose_14 (by decide) (by omega) (by omega) (fun c_5 => ?_) (fun c_5 => ?_)
      · skip
        exfalso; omega
      · skip
        refine lv_iload_n hx hb d_Mo_expose_17 rfl (lv_at hl 3 rfl) ?_
        refine gc_S (n := 1) [.int (nI n3)] [] hx hb hml hown hts hK hN hX hP hS (c_Mo_inside (nI n3)) k_926 k_927 k_10 k_928 (by decide +kernel) ⟨by decide, by decide⟩ rfl hl.1 rfl (Nat.le_of_ble_eq_true rfl) d_Mo_expose_18 ⟨by decide, by decide⟩ (fun r N1 M_6 H locs hw hP hS => ?_)
        obtain ⟨rfl, hw⟩ := hw
        rcases hw with ⟨c_7, rfl, rfl⟩ | ⟨c_8, rfl, rfl⟩
        · skip
          refine W.eq (g2 := F0 m 21 ls [.int (nI 1)]) rfl ?_
          refine lv_if_eq (tgt := 32) hx hb d_Mo_expose_21 (by decide) (fun q => absurd q (by decide)) (fun _ => ?_)
          refine lv_iload hx hb d_Mo_expose_24 (lv_at hl 4 rfl) ?_
          refine gc_S (n := 1) [.int (nI n4)] [] hx hb hml hown hts hK hN hX hP hS (c_Mo_isByte (nI n4)) k_929 k_930 k_10 k_931 (by decide +kernel) ⟨by decide, by decide⟩ rfl hl.1 rfl (Nat.le_of_ble_eq_true rfl) d_Mo_expose_26 ⟨by decide, by decide⟩ (fun r N1 M_9 H locs hw hP hS => ?_)
          obtain ⟨rfl, hw⟩ := hw
          rcases hw with ⟨c_10, rfl, rfl⟩ | ⟨c_11, rfl, rfl⟩
          · skip
            refine W.eq (g2 := F0 m 29 ls [.int (nI 1)]) rfl ?_
            refine lv_if_ne (tgt := 34) hx hb d_Mo_expose_29 (by decide) (fun _ => ?_) (fun q => absurd q (by decide))
            refine lv_aload_n hx hb d_Mo_expose_34 rfl (lv_at hl 0 rfl) ?_
            refine lv_iload_n hx hb d_Mo_expose_35 rfl (lv_at hl 1 rfl) ?_
            refine lv_iload_n hx hb d_Mo_expose_36 rfl (lv_at hl 2 rfl) ?_
            refine gc_V (q := (R_Mo, F_Mo, 44)) (n := 2) [.int (nI n1), .int (nI n2)] [] hx hb hml hown hts hK hN hX hP hS (c_Mo_mapped (pp := pp) (po := po) (pi := pi) (fl := fl) eh m10 m11 m12 m13 m14 m15 m16 m17 m18 m19 m20 m21 m22 m23 hRE (by omega) hpp hpo hpi hRF (by omega) hF (by omega) (by omega)) rfl eh k_932 k_934 ks_Mo_mapped k_10 k_935 (by decide +kernel) ⟨by decide, by decide⟩ rfl hl.1 rfl (Nat.le_of_ble_eq_true rfl) d_Mo_expose_37 ⟨by decide, by decide⟩ (fun r N1 M_12 H locs hw hP hS => ?_)
            obtain ⟨rfl, hw⟩ := hw
            rcases hw with ⟨vv_13, c_14, c_15, rfl, rfl⟩ | ⟨c_16, rfl, rfl⟩
            · skip
              have hP : gm_P D cls A N (gm_up M h (moO h (nI le) bp (nI nr) (nI wh) (nI tl) (nI ne) (nI nf) (nI na) (nI an) (nI tm) (nI cn) (nI cs) (nI bd) (nI lt) (nI nt) (nI (vv_13 / 256)) (nI (vv_13 % 256)))) H := hP
              have h_17 := gm_pass (k := h) (y := moO h (nI le) bp (nI nr) (nI wh) (nI tl) (nI ne) (nI nf) (nI na) (nI an) (nI tm) (nI cn) (nI cs) (nI bd) (nI lt) (nI nt) (nI (vv_13 / 256)) (nI (vv_13 % 256))) m10 (gm_ne m10 eh (fun h => by cases h))
              have h_18 := gm_pass (k := h) (y := moO h (nI le) bp (nI nr) (nI wh) (nI tl) (nI ne) (nI nf) (nI na) (nI an) (nI tm) (nI cn) (nI cs) (nI bd) (nI lt) (nI nt) (nI (vv_13 / 256)) (nI (vv_13 % 256))) m11 (gm_ne m11 eh (fun h => by cases h))
              have h_19 := gm_pass (k := h) (y := moO h (nI le) bp (nI nr) (nI wh) (nI tl) (nI ne) (nI nf) (nI na) (nI an) (nI tm) (nI cn) (nI cs) (nI bd) (nI lt) (nI nt) (nI (vv_13 / 256)) (nI (vv_13 % 256))) m12 (gm_ne m12 eh (fun h => by cases h))
              have h_20 := gm_pass (k := h) (y := moO h (nI le) bp (nI nr) (nI wh) (nI tl) (nI ne) (nI nf) (nI na) (nI an) (nI tm) (nI cn) (nI cs) (nI bd) (nI lt) (nI nt) (nI (vv_13 / 256)) (nI (vv_13 % 256))) m13 (gm_ne m13 eh (fun h => by cases h))
              have h_21 := gm_pass (k := h) (y := moO h (nI le) bp (nI nr) (nI wh) (nI tl) (nI ne) (nI nf) (nI na) (nI an) (nI tm) (nI cn) (nI cs) (nI bd) (nI lt) (nI nt) (nI (vv_13 / 256)) (nI (vv_13 % 256))) m14 (gm_ne m14 eh (fun h => by cases h))
              have h_22 := gm_pass (k := h) (y := moO h (nI le) bp (nI nr) (nI wh) (nI tl) (nI ne) (nI nf) (nI na) (nI an) (nI tm) (nI cn) (nI cs) (nI bd) (nI lt) (nI nt) (nI (vv_13 / 256)) (nI (vv_13 % 256))) m15 (gm_ne m15 eh (fun h => by cases h))
              have h_23 := gm_pass (k := h) (y := moO h (nI le) bp (nI nr) (nI wh) (nI tl) (nI ne) (nI nf) (nI na) (nI an) (nI tm) (nI cn) (nI cs) (nI bd) (nI lt) (nI nt) (nI (vv_13 / 256)) (nI (vv_13 % 256))) m16 (gm_ne m16 eh (fun h => by cases h))
              have h_24 := gm_pass (k := h) (y := moO h (nI le) bp (nI nr) (nI wh) (nI tl) (nI ne) (nI nf) (nI na) (nI an) (nI tm) (nI cn) (nI cs) (nI bd) (nI lt) (nI nt) (nI (vv_13 / 256)) (nI (vv_13 % 256))) m17 (gm_ne m17 eh (fun h => by cases h))
              have h_25 := gm_pass (k := h) (y := moO h (nI le) bp (nI nr) (nI wh) (nI tl) (nI ne) (nI nf) (nI na) (nI an) (nI tm) (nI cn) (nI cs) (nI bd) (nI lt) (nI nt) (nI (vv_13 / 256)) (nI (vv_13 % 256))) m18 (gm_ne m18 eh (fun h => by cases h))
              have h_26 := gm_pass (k := h) (y := moO h (nI le) bp (nI nr) (nI wh) (nI tl) (nI ne) (nI nf) (nI na) (nI an) (nI tm) (nI cn) (nI cs) (nI bd) (nI lt) (nI nt) (nI (vv_13 / 256)) (nI (vv_13 % 256))) m19 (gm_ne m19 eh (fun h => by cases h))
              have h_27 := gm_pass (k := h) (y := moO h (nI le) bp (nI nr) (nI wh) (nI tl) (nI ne) (nI nf) (nI na) (nI an) (nI tm) (nI cn) (nI cs) (nI bd) (nI lt) (nI nt) (nI (vv_13 / 256)) (nI (vv_13 % 256))) m20 (gm_ne m20 eh (fun h => by cases h))
              have h_28 := gm_pass (k := h) (y := moO h (nI le) bp (nI nr) (nI wh) (nI tl) (nI ne) (nI nf) (nI na) (nI an) (nI tm) (nI cn) (nI cs) (nI bd) (nI lt) (nI nt) (nI (vv_13 / 256)) (nI (vv_13 % 256))) m21 (gm_ne m21 eh (fun h => by cases h))
              have h_29 := gm_pass (k := h) (y := moO h (nI le) bp (nI nr) (nI wh) (nI tl) (nI ne) (nI nf) (nI na) (nI an) (nI tm) (nI cn) (nI cs) (nI bd) (nI lt) (nI nt) (nI (vv_13 / 256)) (nI (vv_13 % 256))) m22 (gm_ne m22 eh (fun h => by cases h))
              have h_30 := gm_pass (k := h) (y := moO h (nI le) bp (nI nr) (nI wh) (nI tl) (nI ne) (nI nf) (nI na) (nI an) (nI tm) (nI cn) (nI cs) (nI bd) (nI lt) (nI nt) (nI (vv_13 / 256)) (nI (vv_13 % 256))) m23 (gm_ne m23 eh (fun h => by cases h))
              have h_31 := gm_up_self M h (moO h (nI le) bp (nI nr) (nI wh) (nI tl) (nI ne) (nI nf) (nI na) (nI an) (nI tm) (nI cn) (nI cs) (nI bd) (nI lt) (nI nt) (nI (vv_13 / 256)) (nI (vv_13 % 256)))
              refine W.eq (g2 := F0 m 40 ls [.int (nI 1)]) rfl ?_
              refine lv_if_ne (tgt := 54) hx hb d_Mo_expose_40 (by decide) (fun _ => ?_) (fun q => absurd q (by decide))
              refine lv_bipush (v := (-6)) hx hb d_Mo_expose_54 (by decide) ?_
              rw [← hQ]
              exact gc_iret hx hb hr hlk hP hS d_Mo_expose_56 ⟨rfl, Or.inr (Or.inl ⟨n1, n2, n3, n4, (nI (vv_13 / 256)), (nI (vv_13 % 256)), ⟨rfl, h1⟩, ⟨rfl, h2⟩, ⟨rfl, h3⟩, ⟨rfl, h4⟩, Or.inl (mpE_has c_14), h_31, (fun z q0 => (gm_up_ne _ _ q0).trans (rfl)), rfl⟩)⟩
            · skip
              refine W.eq (g2 := F0 m 40 ls [.int (nI 0)]) rfl ?_
              refine lv_if_ne (tgt := 54) hx hb d_Mo_expose_40 (by decide) (fun q => absurd q (by decide)) (fun _ => ?_)
              refine lv_aload_n hx hb d_Mo_expose_43 rfl (lv_at hl 0 rfl) ?_
              refine lv_iload_n hx hb d_Mo_expose_44 rfl (lv_at hl 1 rfl) ?_
              refine lv_iload_n hx hb d_Mo_expose_45 rfl (lv_at hl 3 rfl) ?_
              refine lv_iload hx hb d_Mo_expose_46 (lv_at hl 4 rfl) ?_
              refine gc_V (q := (R_Mo, F_Mo, 44)) (n := 3) [.int (nI n1), .int (nI n3), .int (nI n4)] [] hx hb hml hown hts hK hN hX hP hS (c_Mo_portOf (pp := pp) (po := po) (pi := pi) (fl := fl) (b0 := (n3 * 256 + n4)) eh m10 m11 m12 m13 m14 m15 m16 m17 m18 m19 m20 m21 m22 m23 hRE (by omega) hpp hpo hpi hRF (by omega) hF (by omega) (by omega) (by omega)) rfl eh k_936 k_938 ks_Mo_portOf k_10 k_939 (by decide +kernel) ⟨by decide, by decide⟩ rfl hl.1 rfl (Nat.le_of_ble_eq_true rfl) d_Mo_expose_48 ⟨by decide, by decide⟩ (fun r N1 M_32 H locs hw hP hS => ?_)
              obtain ⟨rfl, hw⟩ := hw
              rcases hw with ⟨vv_33, c_34, c_35, rfl, rfl⟩ | ⟨c_36, rfl, rfl⟩
              · skip
                refine W.eq (g2 := F0 m 51 ls [.int (nI vv_33)]) rfl ?_
                refine lz_lt (tgt := 57) hx hb d_Mo_expose_51 (by decide) (by omega) ?_
                refine lv_bipush (v := (-6)) hx hb d_Mo_expose_54 (by decide) ?_
                rw [← hQ]
                exact gc_iret hx hb hr hlk hP hS d_Mo_expose_56 ⟨rfl, Or.inr (Or.inl ⟨n1, n2, n3, n4, fx, fy, ⟨rfl, h1⟩, ⟨rfl, h2⟩, ⟨rfl, h3⟩, ⟨rfl, h4⟩, Or.inr (mpP_has c_34), eh, (fun z q0 => rfl), rfl⟩)⟩
              · skip
                refine W.eq (g2 := F0 m 51 ls [.int (-1)]) rfl ?_
                refine lv_if_lt (tgt := 57) hx hb d_Mo_expose_51 (by decide) (fun _ => ?_) (fun q => absurd q (by decide))
                refine lv_aload_n hx hb d_Mo_expose_57 rfl (lv_at hl 0 rfl) ?_
                refine gm_get (C := R_Mo) (T := F_Mo) (n := 44) hx hb htl i_Mo hown hK hP eh rfl 18 (by decide) (htl _ k_761) (fun _ h => h) rfl d_Mo_expose_58 ?_
                refine lv_iconst (v := nI 4) hx hb d_Mo_expose_61 (by decide) ?_
                refine ln_ne (tgt := 68) hx hb d_Mo_expose_62 (by decide) (by omega) (by omega) (fun c_38 => ?_) (fun c_38 => ?_)
                · skip
                  refine lv_aload_n hx hb d_Mo_expose_68 rfl (lv_at hl 0 rfl) ?_
                  refine gm_get (C := R_Mo) (T := F_Mo) (n := 44) hx hb htl i_Mo hown hK hP eh rfl 14 (by decide) (htl _ k_757) (fun _ h => h) rfl d_Mo_expose_69 ?_
                  refine lv_aload_n hx hb d_Mo_expose_72 rfl (lv_at hl 0 rfl) ?_
                  refine gm_get (C := R_Mo) (T := F_Mo) (n := 44) hx hb htl i_Mo hown hK hP eh rfl 18 (by decide) (htl _ k_761) (fun _ h => h) rfl d_Mo_expose_73 ?_
                  refine lv_iload_n hx hb d_Mo_expose_76 rfl (lv_at hl 1 rfl) ?_
                  refine gz_iast hx hb hK hP hS 0 m10 rfl (by omega) (by omega) d_Mo_expose_77 (fun H locs hP hS => ?_)
                  have hP : gm_P D cls A N (gm_up M (h + 10) (.inl (ca 0, 5, .inl (iN (va_up (me 0) ne n1))))) H := hP
                  have h_39 := gm_pass (k := (h + 10)) (y := .inl (ca 0, 5, .inl (iN (va_up (me 0) ne n1)))) eh (gm_ne eh m10 (fun h => by cases h))
                  have h_40 := gm_pass (k := (h + 10)) (y := .inl (ca 0, 5, .inl (iN (va_up (me 0) ne n1)))) m11 (by omega)
                  have h_41 := gm_pass (k := (h + 10)) (y := .inl (ca 0, 5, .inl (iN (va_up (me 0) ne n1)))) m12 (by omega)
                  have h_42 := gm_pass (k := (h + 10)) (y := .inl (ca 0, 5, .inl (iN (va_up (me 0) ne n1)))) m13 (by omega)
                  have h_43 := gm_pass (k := (h + 10)) (y := .inl (ca 0, 5, .inl (iN (va_up (me 0) ne n1)))) m14 (gm_ne m14 m10 (fun h => by simp at h))
                  have h_44 := gm_pass (k := (h + 10)) (y := .inl (ca 0, 5, .inl (iN (va_up (me 0) ne n1)))) m15 (gm_ne m15 m10 (fun h => by simp at h))
                  have h_45 := gm_pass (k := (h + 10)) (y := .inl (ca 0, 5, .inl (iN (va_up (me 0) ne n1)))) m16 (gm_ne m16 m10 (fun h => by simp at h))
                  have h_46 := gm_pass (k := (h + 10)) (y := .inl (ca 0, 5, .inl (iN (va_up (me 0) ne n1)))) m17 (gm_ne m17 m10 (fun h => by simp at h))
                  have h_47 := gm_pass (k := (h + 10)) (y := .inl (ca 0, 5, .inl (iN (va_up (me 0) ne n1)))) m18 (gm_ne m18 m10 (fun h => by simp at h))
                  have h_48 := gm_pass (k := (h + 10)) (y := .inl (ca 0, 5, .inl (iN (va_up (me 0) ne n1)))) m19 (gm_ne m19 m10 (fun h => by simp at h))
                  have h_49 := gm_pass (k := (h + 10)) (y := .inl (ca 0, 5, .inl (iN (va_up (me 0) ne n1)))) m20 (gm_ne m20 m10 (fun h => by simp at h))
                  have h_50 := gm_pass (k := (h + 10)) (y := .inl (ca 0, 5, .inl (iN (va_up (me 0) ne n1)))) m21 (gm_ne m21 m10 (fun h => by simp at h))
                  have h_51 := gm_pass (k := (h + 10)) (y := .inl (ca 0, 5, .inl (iN (va_up (me 0) ne n1)))) m22 (gm_ne m22 m10 (fun h => by simp at h))
                  have h_52 := gm_pass (k := (h + 10)) (y := .inl (ca 0, 5, .inl (iN (va_up (me 0) ne n1)))) m23 (gm_ne m23 m10 (fun h => by simp at h))
                  have h_53 := gm_up_self M (h + 10) (.inl (ca 0, 5, .inl (iN (va_up (me 0) ne n1))))
                  refine lv_aload_n hx hb d_Mo_expose_78 rfl (lv_at hl 0 rfl) ?_
                  refine gm_get (C := R_Mo) (T := F_Mo) (n := 44) hx hb htl i_Mo hown hK hP h_39 rfl 15 (by decide) (htl _ k_758) (fun _ h => h) rfl d_Mo_expose_79 ?_
                  refine lv_aload_n hx hb d_Mo_expose_82 rfl (lv_at hl 0 rfl) ?_
                  refine gm_get (C := R_Mo) (T := F_Mo) (n := 44) hx hb htl i_Mo hown hK hP h_39 rfl 18 (by decide) (htl _ k_761) (fun _ h => h) rfl d_Mo_expose_83 ?_
                  refine lv_iload_n hx hb d_Mo_expose_86 rfl (lv_at hl 2 rfl) ?_
                  refine gz_iast hx hb hK hP hS 0 h_40 rfl (by omega) (by omega) d_Mo_expose_87 (fun H locs hP hS => ?_)
                  have hP : gm_P D cls A N (gm_up (gm_up M (h + 10) (.inl (ca 0, 5, .inl (iN (va_up (me 0) ne n1))))) (h + 11) (.inl (ca 0, 5, .inl (iN (va_up (me 1) ne n2))))) H := hP
                  have h_54 := gm_pass (k := (h + 11)) (y := .inl (ca 0, 5, .inl (iN (va_up (me 1) ne n2)))) h_39 (gm_ne h_39 h_40 (fun h => by cases h))
                  have h_55 := gm_pass (k := (h + 11)) (y := .inl (ca 0, 5, .inl (iN (va_up (me 1) ne n2)))) h_41 (by omega)
                  have h_56 := gm_pass (k := (h + 11)) (y := .inl (ca 0, 5, .inl (iN (va_up (me 1) ne n2)))) h_42 (by omega)
                  have h_57 := gm_pass (k := (h + 11)) (y := .inl (ca 0, 5, .inl (iN (va_up (me 1) ne n2)))) h_43 (gm_ne h_43 h_40 (fun h => by simp at h))
                  have h_58 := gm_pass (k := (h + 11)) (y := .inl (ca 0, 5, .inl (iN (va_up (me 1) ne n2)))) h_44 (gm_ne h_44 h_40 (fun h => by simp at h))
                  have h_59 := gm_pass (k := (h + 11)) (y := .inl (ca 0, 5, .inl (iN (va_up (me 1) ne n2)))) h_45 (gm_ne h_45 h_40 (fun h => by simp at h))
                  have h_60 := gm_pass (k := (h + 11)) (y := .inl (ca 0, 5, .inl (iN (va_up (me 1) ne n2)))) h_46 (gm_ne h_46 h_40 (fun h => by simp at h))
                  have h_61 := gm_pass (k := (h + 11)) (y := .inl (ca 0, 5, .inl (iN (va_up (me 1) ne n2)))) h_47 (gm_ne h_47 h_40 (fun h => by simp at h))
                  have h_62 := gm_pass (k := (h + 11)) (y := .inl (ca 0, 5, .inl (iN (va_up (me 1) ne n2)))) h_48 (gm_ne h_48 h_40 (fun h => by simp at h))
                  have h_63 := gm_pass (k := (h + 11)) (y := .inl (ca 0, 5, .inl (iN (va_up (me 1) ne n2)))) h_49 (gm_ne h_49 h_40 (fun h => by simp at h))
                  have h_64 := gm_pass (k := (h + 11)) (y := .inl (ca 0, 5, .inl (iN (va_up (me 1) ne n2)))) h_50 (gm_ne h_50 h_40 (fun h => by simp at h))
                  have h_65 := gm_pass (k := (h + 11)) (y := .inl (ca 0, 5, .inl (iN (va_up (me 1) ne n2)))) h_51 (gm_ne h_51 h_40 (fun h => by simp at h))
                  have h_66 := gm_pass (k := (h + 11)) (y := .inl (ca 0, 5, .inl (iN (va_up (me 1) ne n2)))) h_52 (gm_ne h_52 h_40 (fun h => by simp at h))
                  have h_67 := gm_pass (k := (h + 11)) (y := .inl (ca 0, 5, .inl (iN (va_up (me 1) ne n2)))) h_53 (by omega)
                  have h_68 := gm_up_self (gm_up M (h + 10) (.inl (ca 0, 5, .inl (iN (va_up (me 0) ne n1))))) (h + 11) (.inl (ca 0, 5, .inl (iN (va_up (me 1) ne n2))))
                  refine lv_aload_n hx hb d_Mo_expose_88 rfl (lv_at hl 0 rfl) ?_
                  refine gm_get (C := R_Mo) (T := F_Mo) (n := 44) hx hb htl i_Mo hown hK hP h_54 rfl 16 (by decide) (htl _ k_759) (fun _ h => h) rfl d_Mo_expose_89 ?_
                  refine lv_aload_n hx hb d_Mo_expose_92 rfl (lv_at hl 0 rfl) ?_
                  refine gm_get (C := R_Mo) (T := F_Mo) (n := 44) hx hb htl i_Mo hown hK hP h_54 rfl 18 (by decide) (htl _ k_761) (fun _ h => h) rfl d_Mo_expose_93 ?_
                  refine lv_iload_n hx hb d_Mo_expose_96 rfl (lv_at hl 3 rfl) ?_
                  refine gz_iast hx hb hK hP hS 0 h_55 rfl (by omega) (by omega) d_Mo_expose_97 (fun H locs hP hS => ?_)
                  have hP : gm_P D cls A N (gm_up (gm_up (gm_up M (h + 10) (.inl (ca 0, 5, .inl (iN (va_up (me 0) ne n1))))) (h + 11) (.inl (ca 0, 5, .inl (iN (va_up (me 1) ne n2))))) (h + 12) (.inl (ca 0, 5, .inl (iN (va_up (me 2) ne n3))))) H := hP
                  have h_69 := gm_pass (k := (h + 12)) (y := .inl (ca 0, 5, .inl (iN (va_up (me 2) ne n3)))) h_54 (gm_ne h_54 h_55 (fun h => by cases h))
                  have h_70 := gm_pass (k := (h + 12)) (y := .inl (ca 0, 5, .inl (iN (va_up (me 2) ne n3)))) h_56 (by omega)
                  have h_71 := gm_pass (k := (h + 12)) (y := .inl (ca 0, 5, .inl (iN (va_up (me 2) ne n3)))) h_57 (gm_ne h_57 h_55 (fun h => by simp at h))
                  have h_72 := gm_pass (k := (h + 12)) (y := .inl (ca 0, 5, .inl (iN (va_up (me 2) ne n3)))) h_58 (gm_ne h_58 h_55 (fun h => by simp at h))
                  have h_73 := gm_pass (k := (h + 12)) (y := .inl (ca 0, 5, .inl (iN (va_up (me 2) ne n3)))) h_59 (gm_ne h_59 h_55 (fun h => by simp at h))
                  have h_74 := gm_pass (k := (h + 12)) (y := .inl (ca 0, 5, .inl (iN (va_up (me 2) ne n3)))) h_60 (gm_ne h_60 h_55 (fun h => by simp at h))
                  have h_75 := gm_pass (k := (h + 12)) (y := .inl (ca 0, 5, .inl (iN (va_up (me 2) ne n3)))) h_61 (gm_ne h_61 h_55 (fun h => by simp at h))
                  have h_76 := gm_pass (k := (h + 12)) (y := .inl (ca 0, 5, .inl (iN (va_up (me 2) ne n3)))) h_62 (gm_ne h_62 h_55 (fun h => by simp at h))
                  have h_77 := gm_pass (k := (h + 12)) (y := .inl (ca 0, 5, .inl (iN (va_up (me 2) ne n3)))) h_63 (gm_ne h_63 h_55 (fun h => by simp at h))
                  have h_78 := gm_pass (k := (h + 12)) (y := .inl (ca 0, 5, .inl (iN (va_up (me 2) ne n3)))) h_64 (gm_ne h_64 h_55 (fun h => by simp at h))
                  have h_79 := gm_pass (k := (h + 12)) (y := .inl (ca 0, 5, .inl (iN (va_up (me 2) ne n3)))) h_65 (gm_ne h_65 h_55 (fun h => by simp at h))
                  have h_80 := gm_pass (k := (h + 12)) (y := .inl (ca 0, 5, .inl (iN (va_up (me 2) ne n3)))) h_66 (gm_ne h_66 h_55 (fun h => by simp at h))
                  have h_81 := gm_pass (k := (h + 12)) (y := .inl (ca 0, 5, .inl (iN (va_up (me 2) ne n3)))) h_67 (by omega)
                  have h_82 := gm_pass (k := (h + 12)) (y := .inl (ca 0, 5, .inl (iN (va_up (me 2) ne n3)))) h_68 (by omega)
                  have h_83 := gm_up_self (gm_up (gm_up M (h + 10) (.inl (ca 0, 5, .inl (iN (va_up (me 0) ne n1))))) (h + 11) (.inl (ca 0, 5, .inl (iN (va_up (me 1) ne n2))))) (h + 12) (.inl (ca 0, 5, .inl (iN (va_up (me 2) ne n3))))
                  refine lv_aload_n hx hb d_Mo_expose_98 rfl (lv_at hl 0 rfl) ?_
                  refine gm_get (C := R_Mo) (T := F_Mo) (n := 44) hx hb htl i_Mo hown hK hP h_69 rfl 17 (by decide) (htl _ k_760) (fun _ h => h) rfl d_Mo_expose_99 ?_
                  refine lv_aload_n hx hb d_Mo_expose_102 rfl (lv_at hl 0 rfl) ?_
                  refine gm_get (C := R_Mo) (T := F_Mo) (n := 44) hx hb htl i_Mo hown hK hP h_69 rfl 18 (by decide) (htl _ k_761) (fun _ h => h) rfl d_Mo_expose_103 ?_
                  refine lv_iload hx hb d_Mo_expose_106 (lv_at hl 4 rfl) ?_
                  refine gz_iast hx hb hK hP hS 0 h_70 rfl (by omega) (by omega) d_Mo_expose_108 (fun H locs hP hS => ?_)
                  have hP : gm_P D cls A N (gm_up (gm_up (gm_up (gm_up M (h + 10) (.inl (ca 0, 5, .inl (iN (va_up (me 0) ne n1))))) (h + 11) (.inl (ca 0, 5, .inl (iN (va_up (me 1) ne n2))))) (h + 12) (.inl (ca 0, 5, .inl (iN (va_up (me 2) ne n3))))) (h + 13) (.inl (ca 0, 5, .inl (iN (va_up (me 3) ne n4))))) H := hP
                  have h_84 := gm_pass (k := (h + 13)) (y := .inl (ca 0, 5, .inl (iN (va_up (me 3) ne n4)))) h_69 (gm_ne h_69 h_70 (fun h => by cases h))
                  have h_85 := gm_pass (k := (h + 13)) (y := .inl (ca 0, 5, .inl (iN (va_up (me 3) ne n4)))) h_71 (gm_ne h_71 h_70 (fun h => by simp at h))
                  have h_86 := gm_pass (k := (h + 13)) (y := .inl (ca 0, 5, .inl (iN (va_up (me 3) ne n4)))) h_72 (gm_ne h_72 h_70 (fun h => by simp at h))
                  have h_87 := gm_pass (k := (h + 13)) (y := .inl (ca 0, 5, .inl (iN (va_up (me 3) ne n4)))) h_73 (gm_ne h_73 h_70 (fun h => by simp at h))
                  have h_88 := gm_pass (k := (h + 13)) (y := .inl (ca 0, 5, .inl (iN (va_up (me 3) ne n4)))) h_74 (gm_ne h_74 h_70 (fun h => by simp at h))
                  have h_89 := gm_pass (k := (h + 13)) (y := .inl (ca 0, 5, .inl (iN (va_up (me 3) ne n4)))) h_75 (gm_ne h_75 h_70 (fun h => by simp at h))
                  have h_90 := gm_pass (k := (h + 13)) (y := .inl (ca 0, 5, .inl (iN (va_up (me 3) ne n4)))) h_76 (gm_ne h_76 h_70 (fun h => by simp at h))
                  have h_91 := gm_pass (k := (h + 13)) (y := .inl (ca 0, 5, .inl (iN (va_up (me 3) ne n4)))) h_77 (gm_ne h_77 h_70 (fun h => by simp at h))
                  have h_92 := gm_pass (k := (h + 13)) (y := .inl (ca 0, 5, .inl (iN (va_up (me 3) ne n4)))) h_78 (gm_ne h_78 h_70 (fun h => by simp at h))
                  have h_93 := gm_pass (k := (h + 13)) (y := .inl (ca 0, 5, .inl (iN (va_up (me 3) ne n4)))) h_79 (gm_ne h_79 h_70 (fun h => by simp at h))
                  have h_94 := gm_pass (k := (h + 13)) (y := .inl (ca 0, 5, .inl (iN (va_up (me 3) ne n4)))) h_80 (gm_ne h_80 h_70 (fun h => by simp at h))
                  have h_95 := gm_pass (k := (h + 13)) (y := .inl (ca 0, 5, .inl (iN (va_up (me 3) ne n4)))) h_81 (by omega)
                  have h_96 := gm_pass (k := (h + 13)) (y := .inl (ca 0, 5, .inl (iN (va_up (me 3) ne n4)))) h_82 (by omega)
                  have h_97 := gm_pass (k := (h + 13)) (y := .inl (ca 0, 5, .inl (iN (va_up (me 3) ne n4)))) h_83 (by omega)
                  have h_98 := gm_up_self (gm_up (gm_up (gm_up M (h + 10) (.inl (ca 0, 5, .inl (iN (va_up (me 0) ne n1))))) (h + 11) (.inl (ca 0, 5, .inl (iN (va_up (me 1) ne n2))))) (h + 12) (.inl (ca 0, 5, .inl (iN (va_up (me 2) ne n3))))) (h + 13) (.inl (ca 0, 5, .inl (iN (va_up (me 3) ne n4))))
                  refine lv_aload_n hx hb d_Mo_expose_109 rfl (lv_at hl 0 rfl) ?_
                  refine lv_dup hx hb d_Mo_expose_110 rfl ?_
                  refine gm_get (C := R_Mo) (T := F_Mo) (n := 44) hx hb htl i_Mo hown hK hP h_84 rfl 18 (by decide) (htl _ k_761) (fun _ h => h) rfl d_Mo_expose_111 ?_
                  refine lv_iconst (v := nI 1) hx hb d_Mo_expose_114 (by decide) ?_
                  refine lv_iadd hx hb d_Mo_expose_115 ?_
                  rw [show (nI ne) + (nI 1) = nI (ne + 1) from nI_add _ _]
                  refine gm_put (C := R_Mo) (T := F_Mo) (n := 44) (ty := .int) hx hb htl i_Mo t_Mo tk_Mo n_Mo hown hK hP hS h_84 rfl 18 (by decide) (htl _ k_761) (fun _ h => h) rfl (tk_Mo 18 (by decide)) rfl rfl (Nat.le_of_ble_eq_true rfl) d_Mo_expose_116 (fun H locs hP hS => ?_)
                  have hP : gm_P D cls A N (gm_up (gm_up (gm_up (gm_up (gm_up M (h + 10) (.inl (ca 0, 5, .inl (iN (va_up (me 0) ne n1))))) (h + 11) (.inl (ca 0, 5, .inl (iN (va_up (me 1) ne n2))))) (h + 12) (.inl (ca 0, 5, .inl (iN (va_up (me 2) ne n3))))) (h + 13) (.inl (ca 0, 5, .inl (iN (va_up (me 3) ne n4))))) h (moO h (nI le) bp (nI nr) (nI wh) (nI tl) (nI (ne + 1)) (nI nf) (nI na) (nI an) (nI tm) (nI cn) (nI cs) (nI bd) (nI lt) (nI nt) fx fy)) H := hP
                  have h_99 := gm_pass (k := h) (y := moO h (nI le) bp (nI nr) (nI wh) (nI tl) (nI (ne + 1)) (nI nf) (nI na) (nI an) (nI tm) (nI cn) (nI cs) (nI bd) (nI lt) (nI nt) fx fy) h_85 (gm_ne h_85 h_84 (fun h => by cases h))
                  have h_100 := gm_pass (k := h) (y := moO h (nI le) bp (nI nr) (nI wh) (nI tl) (nI (ne + 1)) (nI nf) (nI na) (nI an) (nI tm) (nI cn) (nI cs) (nI bd) (nI lt) (nI nt) fx fy) h_86 (gm_ne h_86 h_84 (fun h => by cases h))
                  have h_101 := gm_pass (k := h) (y := moO h (nI le) bp (nI nr) (nI wh) (nI tl) (nI (ne + 1)) (nI nf) (nI na) (nI an) (nI tm) (nI cn) (nI cs) (nI bd) (nI lt) (nI nt) fx fy) h_87 (gm_ne h_87 h_84 (fun h => by cases h))
                  have h_102 := gm_pass (k := h) (y := moO h (nI le) bp (nI nr) (nI wh) (nI tl) (nI (ne + 1)) (nI nf) (nI na) (nI an) (nI tm) (nI cn) (nI cs) (nI bd) (nI lt) (nI nt) fx fy) h_88 (gm_ne h_88 h_84 (fun h => by cases h))
                  have h_103 := gm_pass (k := h) (y := moO h (nI le) bp (nI nr) (nI wh) (nI tl) (nI (ne + 1)) (nI nf) (nI na) (nI an) (nI tm) (nI cn) (nI cs) (nI bd) (nI lt) (nI nt) fx fy) h_89 (gm_ne h_89 h_84 (fun h => by cases h))
                  have h_104 := gm_pass (k := h) (y := moO h (nI le) bp (nI nr) (nI wh) (nI tl) (nI (ne + 1)) (nI nf) (nI na) (nI an) (nI tm) (nI cn) (nI cs) (nI bd) (nI lt) (nI nt) fx fy) h_90 (gm_ne h_90 h_84 (fun h => by cases h))
                  have h_105 := gm_pass (k := h) (y := moO h (nI le) bp (nI nr) (nI wh) (nI tl) (nI (ne + 1)) (nI nf) (nI na) (nI an) (nI tm) (nI cn) (nI cs) (nI bd) (nI lt) (nI nt) fx fy) h_91 (gm_ne h_91 h_84 (fun h => by cases h))
                  have h_106 := gm_pass (k := h) (y := moO h (nI le) bp (nI nr) (nI wh) (nI tl) (nI (ne + 1)) (nI nf) (nI na) (nI an) (nI tm) (nI cn) (nI cs) (nI bd) (nI lt) (nI nt) fx fy) h_92 (gm_ne h_92 h_84 (fun h => by cases h))
                  have h_107 := gm_pass (k := h) (y := moO h (nI le) bp (nI nr) (nI wh) (nI tl) (nI (ne + 1)) (nI nf) (nI na) (nI an) (nI tm) (nI cn) (nI cs) (nI bd) (nI lt) (nI nt) fx fy) h_93 (gm_ne h_93 h_84 (fun h => by cases h))
                  have h_108 := gm_pass (k := h) (y := moO h (nI le) bp (nI nr) (nI wh) (nI tl) (nI (ne + 1)) (nI nf) (nI na) (nI an) (nI tm) (nI cn) (nI cs) (nI bd) (nI lt) (nI nt) fx fy) h_94 (gm_ne h_94 h_84 (fun h => by cases h))
                  have h_109 := gm_pass (k := h) (y := moO h (nI le) bp (nI nr) (nI wh) (nI tl) (nI (ne + 1)) (nI nf) (nI na) (nI an) (nI tm) (nI cn) (nI cs) (nI bd) (nI lt) (nI nt) fx fy) h_95 (gm_ne h_95 h_84 (fun h => by cases h))
                  have h_110 := gm_pass (k := h) (y := moO h (nI le) bp (nI nr) (nI wh) (nI tl) (nI (ne + 1)) (nI nf) (nI na) (nI an) (nI tm) (nI cn) (nI cs) (nI bd) (nI lt) (nI nt) fx fy) h_96 (gm_ne h_96 h_84 (fun h => by cases h))
                  have h_111 := gm_pass (k := h) (y := moO h (nI le) bp (nI nr) (nI wh) (nI tl) (nI (ne + 1)) (nI nf) (nI na) (nI an) (nI tm) (nI cn) (nI cs) (nI bd) (nI lt) (nI nt) fx fy) h_97 (gm_ne h_97 h_84 (fun h => by cases h))
                  have h_112 := gm_pass (k := h) (y := moO h (nI le) bp (nI nr) (nI wh) (nI tl) (nI (ne + 1)) (nI nf) (nI na) (nI an) (nI tm) (nI cn) (nI cs) (nI bd) (nI lt) (nI nt) fx fy) h_98 (gm_ne h_98 h_84 (fun h => by cases h))
                  have h_113 := gm_up_self (gm_up (gm_up (gm_up (gm_up M (h + 10) (.inl (ca 0, 5, .inl (iN (va_up (me 0) ne n1))))) (h + 11) (.inl (ca 0, 5, .inl (iN (va_up (me 1) ne n2))))) (h + 12) (.inl (ca 0, 5, .inl (iN (va_up (me 2) ne n3))))) (h + 13) (.inl (ca 0, 5, .inl (iN (va_up (me 3) ne n4))))) h (moO h (nI le) bp (nI nr) (nI wh) (nI tl) (nI (ne + 1)) (nI nf) (nI na) (nI an) (nI tm) (nI cn) (nI cs) (nI bd) (nI lt) (nI nt) fx fy)
                  refine lv_iconst (v := nI 0) hx hb d_Mo_expose_119 (by decide) ?_
                  rw [← hQ]
                  exact gc_iret hx hb hr hlk hP hS d_Mo_expose_120 ⟨rfl, Or.inr (Or.inr (Or.inr ⟨n1, n2, n3, n4, mkE (va_up (me 0) ne n1) (va_up (me 1) ne n2) (va_up (me 2) ne n3) (va_up (me 3) ne n4), ⟨rfl, h1⟩, ⟨rfl, h2⟩, ⟨rfl, h3⟩, ⟨rfl, h4⟩, (fun q => q.elim (mpE_no c_16) (mpP_no c_36)), by omega, relE_add hRE (by omega) (by omega), h_113, h_109, h_110, h_111, h_112, (fun z q0 q1 q2 q3 q4 => (gm_up_ne _ _ q0).trans ((gm_up_ne _ _ q4).trans ((gm_up_ne _ _ q3).trans ((gm_up_ne _ _ q2).trans ((gm_up_ne _ _ q1).trans (rfl)))))), rfl⟩))⟩
                · skip
                  refine lv_bipush (v := (-3)) hx hb d_Mo_expose_65 (by decide) ?_
                  rw [← hQ]
                  exact gc_iret hx hb hr hlk hP hS d_Mo_expose_67 ⟨rfl, Or.inr (Or.inr (Or.inl ⟨n1, n2, n3, n4, ⟨rfl, h1⟩, ⟨rfl, h2⟩, ⟨rfl, h3⟩, ⟨rfl, h4⟩, (fun q => q.elim (mpE_no c_16) (mpP_no c_36)), by assumption, rfl, rfl⟩))⟩
          · skip
            refine W.eq (g2 := F0 m 29 ls [.int (nI 0)]) rfl ?_
            refine lv_if_ne (tgt := 34) hx hb d_Mo_expose_29 (by decide) (fun q => absurd q (by decide)) (fun _ => ?_)
            exact absurd ⟨n4, by omega, rfl⟩ c_11
        · skip
          refine W.eq (g2 := F0 m 21 ls [.int (nI 0)]) rfl ?_
          refine lv_if_eq (tgt := 32) hx hb d_Mo_expose_21 (by decide) (fun _ => ?_) (fun q => absurd q (by decide))
          exact absurd ⟨n3, by omega, rfl⟩ c_8
    · skip
      refine W.eq (g2 := F0 m 4 ls [.int (nI 0)]) rfl ?_
      refine lv_if_eq (tgt := 32) hx hb d_Mo_expose_4 (by decide) (fun _ => ?_) (fun q => absurd q (by decide))
      exact absurd ⟨n1, by omega, rfl⟩ c_3
  · skip
    refine lv_iload_n hx hb d_Mo_expose_0 rfl (lv_at hl 1 rfl) ?_
    refine gc_S (n := 1) [.int x1] [] hx hb hml hown hts hK hN hX hP hS (c_Mo_isProtocol x1) k_923 k_924 k_10 k_925 (by decide +kernel) ⟨by decide, by decide⟩ rfl hl.1 rfl (Nat.le_of_ble_eq_true rfl) d_Mo_expose_1 ⟨by decide, by decide⟩ (fun r N1 M_114 H locs hw hP hS => ?_)
    obtain ⟨rfl, hw⟩ := hw
    rcases hw with ⟨c_115, rfl, rfl⟩ | ⟨c_116, rfl, rfl⟩
    · skip
      refine W.eq (g2 := F0 m 4 ls [.int (nI 1)]) rfl ?_
      refine lv_if_eq (tgt := 32) hx hb d_Mo_expose_4 (by decide) (fun q => absurd q (by decide)) (fun _ => ?_)
      refine lv_iload_n hx hb d_Mo_expose_7 rfl (lv_at hl 2 rfl) ?_
      refine lv_if_lt (tgt := 32) hx hb d_Mo_expose_8 (by decide) (fun c_117 => ?_) (fun c_117 => ?_)
      · skip
        refine lv_iconst (v := (-1)) hx hb d_Mo_expose_32 (by decide) ?_
        rw [← hQ]
        exact gc_iret hx hb hr hlk hP hS d_Mo_expose_33 ⟨rfl, Or.inl ⟨hno, rfl, rfl⟩⟩
      · skip
        refine lv_iload_n hx hb d_Mo_expose_11 rfl (lv_at hl 2 rfl) ?_
        refine lv_bipush (v := nI 99) hx hb d_Mo_expose_12 (by decide) ?_
        refine lv_icmp_gt (tgt := 32) hx hb d_Mo_expose_14 (by decide) (fun c_118 => ?_) (fun c_118 => ?_)
        · skip
          refine lv_iconst (v := (-1)) hx hb d_Mo_expose_32 (by decide) ?_
          rw [← hQ]
          exact gc_iret hx hb hr hlk hP hS d_Mo_expose_33 ⟨rfl, Or.inl ⟨hno, rfl, rfl⟩⟩
        · skip
          refine lv_iload_n hx hb d_Mo_expose_17 rfl (lv_at hl 3 rfl) ?_
          refine gc_S (n := 1) [.int x3] [] hx hb hml hown hts hK hN hX hP hS (c_Mo_inside x3) k_926 k_927 k_10 k_928 (by decide +kernel) ⟨by decide, by decide⟩ rfl hl.1 rfl (Nat.le_of_ble_eq_true rfl) d_Mo_expose_18 ⟨by decide, by decide⟩ (fun r N1 M_119 H locs hw hP hS => ?_)
          obtain ⟨rfl, hw⟩ := hw
          rcases hw with ⟨c_120, rfl, rfl⟩ | ⟨c_121, rfl, rfl⟩
          · skip
            refine W.eq (g2 := F0 m 21 ls [.int (nI 1)]) rfl ?_
            refine lv_if_eq (tgt := 32) hx hb d_Mo_expose_21 (by decide) (fun q => absurd q (by decide)) (fun _ => ?_)
            refine lv_iload hx hb d_Mo_expose_24 (lv_at hl 4 rfl) ?_
            refine gc_S (n := 1) [.int x4] [] hx hb hml hown hts hK hN hX hP hS (c_Mo_isByte x4) k_929 k_930 k_10 k_931 (by decide +kernel) ⟨by decide, by decide⟩ rfl hl.1 rfl (Nat.le_of_ble_eq_true rfl) d_Mo_expose_26 ⟨by decide, by decide⟩ (fun r N1 M_122 H locs hw hP hS => ?_)
            obtain ⟨rfl, hw⟩ := hw
            rcases hw with ⟨c_123, rfl, rfl⟩ | ⟨c_124, rfl, rfl⟩
            · skip
              refine W.eq (g2 := F0 m 29 ls [.int (nI 1)]) rfl ?_
              refine lv_if_ne (tgt := 34) hx hb d_Mo_expose_29 (by decide) (fun _ => ?_) (fun q => absurd q (by decide))
              exact absurd ⟨c_115, in_lift (by decide) ⟨c_117, c_118⟩, c_120, c_123⟩ hno
            · skip
              refine W.eq (g2 := F0 m 29 ls [.int (nI 0)]) rfl ?_
              refine lv_if_ne (tgt := 34) hx hb d_Mo_expose_29 (by decide) (fun q => absurd q (by decide)) (fun _ => ?_)
              refine lv_iconst (v := (-1)) hx hb d_Mo_expose_32 (by decide) ?_
              rw [← hQ]
              exact gc_iret hx hb hr hlk hP hS d_Mo_expose_33 ⟨rfl, Or.inl ⟨hno, rfl, rfl⟩⟩
          · skip
            refine W.eq (g2 := F0 m 21 ls [.int (nI 0)]) rfl ?_
            refine lv_if_eq (tgt := 32) hx hb d_Mo_expose_21 (by decide) (fun _ => ?_) (fun q => absurd q (by decide))
            refine lv_iconst (v := (-1)) hx hb d_Mo_expose_32 (by decide) ?_
            rw [← hQ]
            exact gc_iret hx hb hr hlk hP hS d_Mo_expose_33 ⟨rfl, Or.inl ⟨hno, rfl, rfl⟩⟩
    · skip
      refine W.eq (g2 := F0 m 4 ls [.int (nI 0)]) rfl ?_
      refine lv_if_eq (tgt := 32) hx hb d_Mo_expose_4 (by decide) (fun _ => ?_) (fun q => absurd q (by decide))
      refine lv_iconst (v := (-1)) hx hb d_Mo_expose_32 (by decide) ?_
      rw [← hQ]
      exact gc_iret hx hb hr hlk hP hS d_Mo_expose_33 ⟨rfl, Or.inl ⟨hno, rfl, rfl⟩⟩
set_option maxHeartbeats 4000000 in
set_option maxRecDepth 100000 in
theorem c_Mo_endFlow {h le nr tl ne nf na an tm cn cs bd lt nt wh : Nat} {bp fx fy : Int32} {mq : Nat → Nat → Nat} {k : Nat} (eh : M h = some (moO h (nI le) bp (nI nr) (nI wh) (nI tl) (nI ne) (nI nf) (nI na) (nI an) (nI tm) (nI cn) (nI cs) (nI bd) (nI lt) (nI nt) fx fy)) (m14 : M (h + 14) = some (.inl (ca 0, 17, .inl (iN (mq 0))))) (m15 : M (h + 15) = some (.inl (ca 0, 17, .inl (iN (mq 1))))) (m16 : M (h + 16) = some (.inl (ca 0, 17, .inl (iN (mq 2))))) (m17 : M (h + 17) = some (.inl (ca 0, 17, .inl (iN (mq 3))))) (m18 : M (h + 18) = some (.inl (ca 0, 17, .inl (iN (mq 4))))) (m19 : M (h + 19) = some (.inl (ca 0, 17, .inl (iN (mq 5))))) (m20 : M (h + 20) = some (.inl (ca 0, 17, .inl (iN (mq 6))))) (m21 : M (h + 21) = some (.inl (ca 0, 17, .inl (iN (mq 7))))) (m22 : M (h + 22) = some (.inl (ca 0, 17, .inl (iN (mq 8))))) (m23 : M (h + 23) = some (.inl (ca 0, 17, .inl (iN (mq 9))))) (hk0 : k < nf) (hnf : nf ≤ 16) : gC l D ca A G y_Mo_endFlow (.code y_Mo_endFlow b_Mo_endFlow 3 none) ({ frames := 0, cells := 0, slots := 0, locals := 0 }) N M [.ref h, .int (nI k)] gm_v (fun (_ : Unit) (N1 : Nat) (M1 : gm_M) => N = N1 ∧ M1 h = some (moO h (nI le) bp (nI nr) (nI wh) (nI tl) (nI ne) (nI (nf - 1)) (nI na) (nI an) (nI tm) (nI cn) (nI cs) (nI bd) (nI lt) (nI nt) fx fy) ∧ M1 (h + 14) = some (.inl (ca 0, 17, .inl (iN ((shQ mq k nf) 0)))) ∧ M1 (h + 15) = some (.inl (ca 0, 17, .inl (iN ((shQ mq k nf) 1)))) ∧ M1 (h + 16) = some (.inl (ca 0, 17, .inl (iN ((shQ mq k nf) 2)))) ∧ M1 (h + 17) = some (.inl (ca 0, 17, .inl (iN ((shQ mq k nf) 3)))) ∧ M1 (h + 18) = some (.inl (ca 0, 17, .inl (iN ((shQ mq k nf) 4)))) ∧ M1 (h + 19) = some (.inl (ca 0, 17, .inl (iN ((shQ mq k nf) 5)))) ∧ M1 (h + 20) = some (.inl (ca 0, 17, .inl (iN ((shQ mq k nf) 6)))) ∧ M1 (h + 21) = some (.inl (ca 0, 17, .inl (iN ((shQ mq k nf) 7)))) ∧ M1 (h + 22) = some (.inl (ca 0, 17, .inl (iN ((shQ mq k nf) 8)))) ∧ M1 (h + 23) = some (.inl (ca 0, 17, .inl (iN ((shQ mq k nf) 9)))) ∧ (∀ z, z ≠ h → z ≠ (h + 14) → z ≠ (h + 15) → z ≠ (h + 16) → z ≠ (h + 17) → z ≠ (h + 18) → z ≠ (h + 19) → z ≠ (h + 20) → z ≠ (h + 21) → z ≠ (h + 22) → z ≠ (h + 23) → M1 z = M z)) := by
  refine gm_body (by decide) (Nat.le_of_ble_eq_true rfl) (fun p e s m below meth c ls hx hb hr hts hown hlk hml hnm hP hK hN hX hS hl => ?_)
  have htl : ∀ w ∈ LW, w.before _ s = true := fun w h => hts w (List.mem_cons_of_mem _ h)
  have hown : s.vm.findClass "PacketGateModel" = some m.cls := hown
  have hl : lv_has ls 3 [(0, .ref h), (1, .int (nI k))] := hl
  generalize hQ : MQ below _ _ s _ _ A = Q
  refine lv_aload_n hx hb d_Mo_endFlow_0 rfl (lv_at hl 0 rfl) ?_
  refine lv_dup hx hb d_Mo_endFlow_1 rfl ?_
  refine gm_get (C := R_Mo) (T := F_Mo) (n := 44) hx hb htl i_Mo hown hK hP eh rfl 29 (by decide) (htl _ k_772) (fun _ h => h) rfl d_Mo_endFlow_2 ?_
  refine lv_iconst (v := nI 1) hx hb d_Mo_endFlow_5 (by decide) ?_
  refine lv_isub hx hb d_Mo_endFlow_6 ?_
  rw [show (nI nf) - (nI 1) = nI (nf - 1) from pk_sub (by omega)]
  refine gm_put (C := R_Mo) (T := F_Mo) (n := 44) (ty := .int) hx hb htl i_Mo t_Mo tk_Mo n_Mo hown hK hP hS eh rfl 29 (by decide) (htl _ k_772) (fun _ h => h) rfl (tk_Mo 29 (by decide)) rfl rfl (Nat.le_of_ble_eq_true rfl) d_Mo_endFlow_7 (fun H locs hP hS => ?_)
  have hP : gm_P D cls A N (gm_up M h (moO h (nI le) bp (nI nr) (nI wh) (nI tl) (nI ne) (nI (nf - 1)) (nI na) (nI an) (nI tm) (nI cn) (nI cs) (nI bd) (nI lt) (nI nt) fx fy)) H := hP
  have h_1 := gm_pass (k := h) (y := moO h (nI le) bp (nI nr) (nI wh) (nI tl) (nI ne) (nI (nf - 1)) (nI na) (nI an) (nI tm) (nI cn) (nI cs) (nI bd) (nI lt) (nI nt) fx fy) m14 (gm_ne m14 eh (fun h => by cases h))
  have h_2 := gm_pass (k := h) (y := moO h (nI le) bp (nI nr) (nI wh) (nI tl) (nI ne) (nI (nf - 1)) (nI na) (nI an) (nI tm) (nI cn) (nI cs) (nI bd) (nI lt) (nI nt) fx fy) m15 (gm_ne m15 eh (fun h => by cases h))
  have h_3 := gm_pass (k := h) (y := moO h (nI le) bp (nI nr) (nI wh) (nI tl) (nI ne) (nI (nf - 1)) (nI na) (nI an) (nI tm) (nI cn) (nI cs) (nI bd) (nI lt) (nI nt) fx fy) m16 (gm_ne m16 eh (fun h => by cases h))
  have h_4 := gm_pass (k := h) (y := moO h (nI le) bp (nI nr) (nI wh) (nI tl) (nI ne) (nI (nf - 1)) (nI na) (nI an) (nI tm) (nI cn) (nI cs) (nI bd) (nI lt) (nI nt) fx fy) m17 (gm_ne m17 eh (fun h => by cases h))
  have h_5 := gm_pass (k := h) (y := moO h (nI le) bp (nI nr) (nI wh) (nI tl) (nI ne) (nI (nf - 1)) (nI na) (nI an) (nI tm) (nI cn) (nI cs) (nI bd) (nI lt) (nI nt) fx fy) m18 (gm_ne m18 eh (fun h => by cases h))
  have h_6 := gm_pass (k := h) (y := moO h (nI le) bp (nI nr) (nI wh) (nI tl) (nI ne) (nI (nf - 1)) (nI na) (nI an) (nI tm) (nI cn) (nI cs) (nI bd) (nI lt) (nI nt) fx fy) m19 (gm_ne m19 eh (fun h => by cases h))
  have h_7 := gm_pass (k := h) (y := moO h (nI le) bp (nI nr) (nI wh) (nI tl) (nI ne) (nI (nf - 1)) (nI na) (nI an) (nI tm) (nI cn) (nI cs) (nI bd) (nI lt) (nI nt) fx fy) m20 (gm_ne m20 eh (fun h => by cases h))
  have h_8 := gm_pass (k := h) (y := moO h (nI le) bp (nI nr) (nI wh) (nI tl) (nI ne) (nI (nf - 1)) (nI na) (nI an) (nI tm) (nI cn) (nI cs) (nI bd) (nI lt) (nI nt) fx fy) m21 (gm_ne m21 eh (fun h => by cases h))
  have h_9 := gm_pass (k := h) (y := moO h (nI le) bp (nI nr) (nI wh) (nI tl) (nI ne) (nI (nf - 1)) (nI na) (nI an) (nI tm) (nI cn) (nI cs) (nI bd) (nI lt) (nI nt) fx fy) m22 (gm_ne m22 eh (fun h => by cases h))
  have h_10 := gm_pass (k := h) (y := moO h (nI le) bp (nI nr) (nI wh) (nI tl) (nI ne) (nI (nf - 1)) (nI na) (nI an) (nI tm) (nI cn) (nI cs) (nI bd) (nI lt) (nI nt) fx fy) m23 (gm_ne m23 eh (fun h => by cases h))
  have h_11 := gm_up_self M h (moO h (nI le) bp (nI nr) (nI wh) (nI tl) (nI ne) (nI (nf - 1)) (nI na) (nI an) (nI tm) (nI cn) (nI cs) (nI bd) (nI lt) (nI nt) fx fy)
  refine lv_iload_n hx hb d_Mo_endFlow_10 rfl (lv_at hl 1 rfl) ?_
  refine lv_istore_n (lv' := [(2, .int (nI k)), (0, .ref h), (1, .int (nI k))]) hx hb d_Mo_endFlow_11 rfl hl (by decide) rfl (fun ls hl => ?_)
  have loop_12 : ∀ (fu : Nat) (j : Nat) (av0 : Nat → Nat) (av1 : Nat → Nat) (av2 : Nat → Nat) (av3 : Nat → Nat) (av4 : Nat → Nat) (av5 : Nat → Nat) (av6 : Nat → Nat) (av7 : Nat → Nat) (av8 : Nat → Nat) (av9 : Nat → Nat) (Mv : gm_M) (ls : Array Slot) (H : Heap) (locs : List Loc), (Mv h = some (moO h (nI le) bp (nI nr) (nI wh) (nI tl) (nI ne) (nI (nf - 1)) (nI na) (nI an) (nI tm) (nI cn) (nI cs) (nI bd) (nI lt) (nI nt) fx fy)) → (Mv (h + 14) = some (.inl (ca 0, 17, .inl (iN av0)))) → (Mv (h + 15) = some (.inl (ca 0, 17, .inl (iN av1)))) → (Mv (h + 16) = some (.inl (ca 0, 17, .inl (iN av2)))) → (Mv (h + 17) = some (.inl (ca 0, 17, .inl (iN av3)))) → (Mv (h + 18) = some (.inl (ca 0, 17, .inl (iN av4)))) → (Mv (h + 19) = some (.inl (ca 0, 17, .inl (iN av5)))) → (Mv (h + 20) = some (.inl (ca 0, 17, .inl (iN av6)))) → (Mv (h + 21) = some (.inl (ca 0, 17, .inl (iN av7)))) → (Mv (h + 22) = some (.inl (ca 0, 17, .inl (iN av8)))) → (Mv (h + 23) = some (.inl (ca 0, 17, .inl (iN av9)))) → (k ≤ j ∧ j + 1 ≤ nf) → (av0 = shf (mq 0) k j) → (av1 = shf (mq 1) k j) → (av2 = shf (mq 2) k j) → (av3 = shf (mq 3) k j) → (av4 = shf (mq 4) k j) → (av5 = shf (mq 5) k j) → (av6 = shf (mq 6) k j) → (av7 = shf (mq 7) k j) → (av8 = shf (mq 8) k j) → (av9 = shf (mq 9) k j) → (∀ z, z ≠ h → z ≠ (h + 14) → z ≠ (h + 15) → z ≠ (h + 16) → z ≠ (h + 17) → z ≠ (h + 18) → z ≠ (h + 19) → z ≠ (h + 20) → z ≠ (h + 21) → z ≠ (h + 22) → z ≠ (h + 23) → Mv z = M z) → (nf - j) < fu → gm_P D cls A N Mv H → va_S A s.heap H locs → lv_has ls 3 [(0, .ref h), (2, .int (nI j))] → W p l e ({ frames := 0, cells := 0, slots := 0, locals := 0 }) s m ([.ref h, .int (nI k)] : List Value).toArray below meth c H locs (0) (0) Q (F0 m 12 ls []) := by
    intro fu
    induction fu with
    | zero => intro j av0 av1 av2 av3 av4 av5 av6 av7 av8 av9 Mv ls H locs ehv m14v m15v m16v m17v m18v m19v m20v m21v m22v m23v hj hav0 hav1 hav2 hav3 hav4 hav5 hav6 hav7 hav8 hav9 hfrv hk; exact absurd hk (Nat.not_lt_zero _)
    | succ fu ih_12 =>
      intro j av0 av1 av2 av3 av4 av5 av6 av7 av8 av9 Mv ls H locs ehv m14v m15v m16v m17v m18v m19v m20v m21v m22v m23v hj hav0 hav1 hav2 hav3 hav4 hav5 hav6 hav7 hav8 hav9 hfrv hk hP hS hl
      refine lv_iload_n hx hb d_Mo_endFlow_12 rfl (lv_at hl 1 rfl) ?_
      refine lv_aload_n hx hb d_Mo_endFlow_13 rfl (lv_at hl 0 rfl) ?_
      refine gm_get (C := R_Mo) (T := F_Mo) (n := 44) hx hb htl i_Mo hown hK hP ehv rfl 29 (by decide) (htl _ k_772) (fun _ h => h) rfl d_Mo_endFlow_14 ?_
      refine ln_ge (tgt := 166) hx hb d_Mo_endFlow_17 (by decide) (by omega) (by omega) (fun c_12 => ?_) (fun c_12 => ?_)
      · skip
        obtain rfl : av0 = shf (mq 0) k (nf - 1) := hav0.trans (by rw [show j = nf - 1 from (by omega)])
        obtain rfl : av1 = shf (mq 1) k (nf - 1) := hav1.trans (by rw [show j = nf - 1 from (by omega)])
        obtain rfl : av2 = shf (mq 2) k (nf - 1) := hav2.trans (by rw [show j = nf - 1 from (by omega)])
        obtain rfl : av3 = shf (mq 3) k (nf - 1) := hav3.trans (by rw [show j = nf - 1 from (by omega)])
        obtain rfl : av4 = shf (mq 4) k (nf - 1) := hav4.trans (by rw [show j = nf - 1 from (by omega)])
        obtain rfl : av5 = shf (mq 5) k (nf - 1) := hav5.trans (by rw [show j = nf - 1 from (by omega)])
        obtain rfl : av6 = shf (mq 6) k (nf - 1) := hav6.trans (by rw [show j = nf - 1 from (by omega)])
        obtain rfl : av7 = shf (mq 7) k (nf - 1) := hav7.trans (by rw [show j = nf - 1 from (by omega)])
        obtain rfl : av8 = shf (mq 8) k (nf - 1) := hav8.trans (by rw [show j = nf - 1 from (by omega)])
        obtain rfl : av9 = shf (mq 9) k (nf - 1) := hav9.trans (by rw [show j = nf - 1 from (by omega)])
        rw [← hQ]
        exact gc_vret hx hb hr hlk hP hS d_Mo_endFlow_166 ⟨rfl, ehv, m14v, m15v, m16v, m17v, m18v, m19v, m20v, m21v, m22v, m23v, (fun z q0 q1 q2 q3 q4 q5 q6 q7 q8 q9 q10 => (hfrv z q0 q1 q2 q3 q4 q5 q6 q7 q8 q9 q10).trans (rfl))⟩
      · skip
        refine lv_aload_n hx hb d_Mo_endFlow_20 rfl (lv_at hl 0 rfl) ?_
        refine gm_get (C := R_Mo) (T := F_Mo) (n := 44) hx hb htl i_Mo hown hK hP ehv rfl 19 (by decide) (htl _ k_762) (fun _ h => h) rfl d_Mo_endFlow_21 ?_
        refine lv_iload_n hx hb d_Mo_endFlow_24 rfl (lv_at hl 1 rfl) ?_
        refine lv_aload_n hx hb d_Mo_endFlow_25 rfl (lv_at hl 0 rfl) ?_
        refine gm_get (C := R_Mo) (T := F_Mo) (n := 44) hx hb htl i_Mo hown hK hP ehv rfl 19 (by decide) (htl _ k_762) (fun _ h => h) rfl d_Mo_endFlow_26 ?_
        refine lv_iload_n hx hb d_Mo_endFlow_29 rfl (lv_at hl 1 rfl) ?_
        refine lv_iconst (v := nI 1) hx hb d_Mo_endFlow_30 (by decide) ?_
        refine lv_iadd hx hb d_Mo_endFlow_31 ?_
        rw [show (nI j) + (nI 1) = nI (j + 1) from nI_add _ _]
        refine gz_iald hx hb hK hP 0 m14v rfl (by omega) (by omega) d_Mo_endFlow_32 ?_
        refine gz_iast hx hb hK hP hS 0 m14v rfl (by omega) (by omega) d_Mo_endFlow_33 (fun H locs hP hS => ?_)
        have hP : gm_P D cls A N (gm_up Mv (h + 14) (.inl (ca 0, 17, .inl (iN (va_up av0 j (av0 (j + 1))))))) H := hP
        have h_13 := gm_pass (k := (h + 14)) (y := .inl (ca 0, 17, .inl (iN (va_up av0 j (av0 (j + 1)))))) ehv (gm_ne ehv m14v (fun h => by cases h))
        have h_14 := gm_pass (k := (h + 14)) (y := .inl (ca 0, 17, .inl (iN (va_up av0 j (av0 (j + 1)))))) m15v (by omega)
        have h_15 := gm_pass (k := (h + 14)) (y := .inl (ca 0, 17, .inl (iN (va_up av0 j (av0 (j + 1)))))) m16v (by omega)
        have h_16 := gm_pass (k := (h + 14)) (y := .inl (ca 0, 17, .inl (iN (va_up av0 j (av0 (j + 1)))))) m17v (by omega)
        have h_17 := gm_pass (k := (h + 14)) (y := .inl (ca 0, 17, .inl (iN (va_up av0 j (av0 (j + 1)))))) m18v (by omega)
        have h_18 := gm_pass (k := (h + 14)) (y := .inl (ca 0, 17, .inl (iN (va_up av0 j (av0 (j + 1)))))) m19v (by omega)
        have h_19 := gm_pass (k := (h + 14)) (y := .inl (ca 0, 17, .inl (iN (va_up av0 j (av0 (j + 1)))))) m20v (by omega)
        have h_20 := gm_pass (k := (h + 14)) (y := .inl (ca 0, 17, .inl (iN (va_up av0 j (av0 (j + 1)))))) m21v (by omega)
        have h_21 := gm_pass (k := (h + 14)) (y := .inl (ca 0, 17, .inl (iN (va_up av0 j (av0 (j + 1)))))) m22v (by omega)
        have h_22 := gm_pass (k := (h + 14)) (y := .inl (ca 0, 17, .inl (iN (va_up av0 j (av0 (j + 1)))))) m23v (by omega)
        have h_23 := gm_up_self Mv (h + 14) (.inl (ca 0, 17, .inl (iN (va_up av0 j (av0 (j + 1))))))
        refine lv_aload_n hx hb d_Mo_endFlow_34 rfl (lv_at hl 0 rfl) ?_
        refine gm_get (C := R_Mo) (T := F_Mo) (n := 44) hx hb htl i_Mo hown hK hP h_13 rfl 20 (by decide) (htl _ k_763) (fun _ h => h) rfl d_Mo_endFlow_35 ?_
        refine lv_iload_n hx hb d_Mo_endFlow_38 rfl (lv_at hl 1 rfl) ?_
        refine lv_aload_n hx hb d_Mo_endFlow_39 rfl (lv_at hl 0 rfl) ?_
        refine gm_get (C := R_Mo) (T := F_Mo) (n := 44) hx hb htl i_Mo hown hK hP h_13 rfl 20 (by decide) (htl _ k_763) (fun _ h => h) rfl d_Mo_endFlow_40 ?_
        refine lv_iload_n hx hb d_Mo_endFlow_43 rfl (lv_at hl 1 rfl) ?_
        refine lv_iconst (v := nI 1) hx hb d_Mo_endFlow_44 (by decide) ?_
        refine lv_iadd hx hb d_Mo_endFlow_45 ?_
        rw [show (nI j) + (nI 1) = nI (j + 1) from nI_add _ _]
        refine gz_iald hx hb hK hP 0 h_14 rfl (by omega) (by omega) d_Mo_endFlow_46 ?_
        refine gz_iast hx hb hK hP hS 0 h_14 rfl (by omega) (by omega) d_Mo_endFlow_47 (fun H locs hP hS => ?_)
        have hP : gm_P D cls A N (gm_up (gm_up Mv (h + 14) (.inl (ca 0, 17, .inl (iN (va_up av0 j (av0 (j + 1))))))) (h + 15) (.inl (ca 0, 17, .inl (iN (va_up av1 j (av1 (j + 1))))))) H := hP
        have h_24 := gm_pass (k := (h + 15)) (y := .inl (ca 0, 17, .inl (iN (va_up av1 j (av1 (j + 1)))))) h_13 (gm_ne h_13 h_14 (fun h => by cases h))
        have h_25 := gm_pass (k := (h + 15)) (y := .inl (ca 0, 17, .inl (iN (va_up av1 j (av1 (j + 1)))))) h_15 (by omega)
        have h_26 := gm_pass (k := (h + 15)) (y := .inl (ca 0, 17, .inl (iN (va_up av1 j (av1 (j + 1)))))) h_16 (by omega)
        have h_27 := gm_pass (k := (h + 15)) (y := .inl (ca 0, 17, .inl (iN (va_up av1 j (av1 (j + 1)))))) h_17 (by omega)
        have h_28 := gm_pass (k := (h + 15)) (y := .inl (ca 0, 17, .inl (iN (va_up av1 j (av1 (j + 1)))))) h_18 (by omega)
        have h_29 := gm_pass (k := (h + 15)) (y := .inl (ca 0, 17, .inl (iN (va_up av1 j (av1 (j + 1)))))) h_19 (by omega)
        have h_30 := gm_pass (k := (h + 15)) (y := .inl (ca 0, 17, .inl (iN (va_up av1 j (av1 (j + 1)))))) h_20 (by omega)
        have h_31 := gm_pass (k := (h + 15)) (y := .inl (ca 0, 17, .inl (iN (va_up av1 j (av1 (j + 1)))))) h_21 (by omega)
        have h_32 := gm_pass (k := (h + 15)) (y := .inl (ca 0, 17, .inl (iN (va_up av1 j (av1 (j + 1)))))) h_22 (by omega)
        have h_33 := gm_pass (k := (h + 15)) (y := .inl (ca 0, 17, .inl (iN (va_up av1 j (av1 (j + 1)))))) h_23 (by omega)
        have h_34 := gm_up_self (gm_up Mv (h + 14) (.inl (ca 0, 17, .inl (iN (va_up av0 j (av0 (j + 1))))))) (h + 15) (.inl (ca 0, 17, .inl (iN (va_up av1 j (av1 (j + 1))))))
        refine lv_aload_n hx hb d_Mo_endFlow_48 rfl (lv_at hl 0 rfl) ?_
        refine gm_get (C := R_Mo) (T := F_Mo) (n := 44) hx hb htl i_Mo hown hK hP h_24 rfl 21 (by decide) (htl _ k_764) (fun _ h => h) rfl d_Mo_endFlow_49 ?_
        refine lv_iload_n hx hb d_Mo_endFlow_52 rfl (lv_at hl 1 rfl) ?_
        refine lv_aload_n hx hb d_Mo_endFlow_53 rfl (lv_at hl 0 rfl) ?_
        refine gm_get (C := R_Mo) (T := F_Mo) (n := 44) hx hb htl i_Mo hown hK hP h_24 rfl 21 (by decide) (htl _ k_764) (fun _ h => h) rfl d_Mo_endFlow_54 ?_
        refine lv_iload_n hx hb d_Mo_endFlow_57 rfl (lv_at hl 1 rfl) ?_
        refine lv_iconst (v := nI 1) hx hb d_Mo_endFlow_58 (by decide) ?_
        refine lv_iadd hx hb d_Mo_endFlow_59 ?_
        rw [show (nI j) + (nI 1) = nI (j + 1) from nI_add _ _]
        refine gz_iald hx hb hK hP 0 h_25 rfl (by omega) (by omega) d_Mo_endFlow_60 ?_
        refine gz_iast hx hb hK hP hS 0 h_25 rfl (by omega) (by omega) d_Mo_endFlow_61 (fun H locs hP hS => ?_)
        have hP : gm_P D cls A N (gm_up (gm_up (gm_up Mv (h + 14) (.inl (ca 0, 17, .inl (iN (va_up av0 j (av0 (j + 1))))))) (h + 15) (.inl (ca 0, 17, .inl (iN (va_up av1 j (av1 (j + 1))))))) (h + 16) (.inl (ca 0, 17, .inl (iN (va_up av2 j (av2 (j + 1))))))) H := hP
        have h_35 := gm_pass (k := (h + 16)) (y := .inl (ca 0, 17, .inl (iN (va_up av2 j (av2 (j + 1)))))) h_24 (gm_ne h_24 h_25 (fun h => by cases h))
        have h_36 := gm_pass (k := (h + 16)) (y := .inl (ca 0, 17, .inl (iN (va_up av2 j (av2 (j + 1)))))) h_26 (by omega)
        have h_37 := gm_pass (k := (h + 16)) (y := .inl (ca 0, 17, .inl (iN (va_up av2 j (av2 (j + 1)))))) h_27 (by omega)
        have h_38 := gm_pass (k := (h + 16)) (y := .inl (ca 0, 17, .inl (iN (va_up av2 j (av2 (j + 1)))))) h_28 (by omega)
        have h_39 := gm_pass (k := (h + 16)) (y := .inl (ca 0, 17, .inl (iN (va_up av2 j (av2 (j + 1)))))) h_29 (by omega)
        have h_40 := gm_pass (k := (h + 16)) (y := .inl (ca 0, 17, .inl (iN (va_up av2 j (av2 (j + 1)))))) h_30 (by omega)
        have h_41 := gm_pass (k := (h + 16)) (y := .inl (ca 0, 17, .inl (iN (va_up av2 j (av2 (j + 1)))))) h_31 (by omega)
        have h_42 := gm_pass (k := (h + 16)) (y := .inl (ca 0, 17, .inl (iN (va_up av2 j (av2 (j + 1)))))) h_32 (by omega)
        have h_43 := gm_pass (k := (h + 16)) (y := .inl (ca 0, 17, .inl (iN (va_up av2 j (av2 (j + 1)))))) h_33 (by omega)
        have h_44 := gm_pass (k := (h + 16)) (y := .inl (ca 0, 17, .inl (iN (va_up av2 j (av2 (j + 1)))))) h_34 (by omega)
        have h_45 := gm_up_self (gm_up (gm_up Mv (h + 14) (.inl (ca 0, 17, .inl (iN (va_up av0 j (av0 (j + 1))))))) (h + 15) (.inl (ca 0, 17, .inl (iN (va_up av1 j (av1 (j + 1))))))) (h + 16) (.inl (ca 0, 17, .inl (iN (va_up av2 j (av2 (j + 1))))))
        refine lv_aload_n hx hb d_Mo_endFlow_62 rfl (lv_at hl 0 rfl) ?_
        refine gm_get (C := R_Mo) (T := F_Mo) (n := 44) hx hb htl i_Mo hown hK hP h_35 rfl 22 (by decide) (htl _ k_765) (fun _ h => h) rfl d_Mo_endFlow_63 ?_
        refine lv_iload_n hx hb d_Mo_endFlow_66 rfl (lv_at hl 1 rfl) ?_
        refine lv_aload_n hx hb d_Mo_endFlow_67 rfl (lv_at hl 0 rfl) ?_
        refine gm_get (C := R_Mo) (T := F_Mo) (n := 44) hx hb htl i_Mo hown hK hP h_35 rfl 22 (by decide) (htl _ k_765) (fun _ h => h) rfl d_Mo_endFlow_68 ?_
        refine lv_iload_n hx hb d_Mo_endFlow_71 rfl (lv_at hl 1 rfl) ?_
        refine lv_iconst (v := nI 1) hx hb d_Mo_endFlow_72 (by decide) ?_
        refine lv_iadd hx hb d_Mo_endFlow_73 ?_
        rw [show (nI j) + (nI 1) = nI (j + 1) from nI_add _ _]
        refine gz_iald hx hb hK hP 0 h_36 rfl (by omega) (by omega) d_Mo_endFlow_74 ?_
        refine gz_iast hx hb hK hP hS 0 h_36 rfl (by omega) (by omega) d_Mo_endFlow_75 (fun H locs hP hS => ?_)
        have hP : gm_P D cls A N (gm_up (gm_up (gm_up (gm_up Mv (h + 14) (.inl (ca 0, 17, .inl (iN (va_up av0 j (av0 (j + 1))))))) (h + 15) (.inl (ca 0, 17, .inl (iN (va_up av1 j (av1 (j + 1))))))) (h + 16) (.inl (ca 0, 17, .inl (iN (va_up av2 j (av2 (j + 1))))))) (h + 17) (.inl (ca 0, 17, .inl (iN (va_up av3 j (av3 (j + 1))))))) H := hP
        have h_46 := gm_pass (k := (h + 17)) (y := .inl (ca 0, 17, .inl (iN (va_up av3 j (av3 (j + 1)))))) h_35 (gm_ne h_35 h_36 (fun h => by cases h))
        have h_47 := gm_pass (k := (h + 17)) (y := .inl (ca 0, 17, .inl (iN (va_up av3 j (av3 (j + 1)))))) h_37 (by omega)
        have h_48 := gm_pass (k := (h + 17)) (y := .inl (ca 0, 17, .inl (iN (va_up av3 j (av3 (j + 1)))))) h_38 (by omega)
        have h_49 := gm_pass (k := (h + 17)) (y := .inl (ca 0, 17, .inl (iN (va_up av3 j (av3 (j + 1)))))) h_39 (by omega)
        have h_50 := gm_pass (k := (h + 17)) (y := .inl (ca 0, 17, .inl (iN (va_up av3 j (av3 (j + 1)))))) h_40 (by omega)
        have h_51 := gm_pass (k := (h + 17)) (y := .inl (ca 0, 17, .inl (iN (va_up av3 j (av3 (j + 1)))))) h_41 (by omega)
        have h_52 := gm_pass (k := (h + 17)) (y := .inl (ca 0, 17, .inl (iN (va_up av3 j (av3 (j + 1)))))) h_42 (by omega)
        have h_53 := gm_pass (k := (h + 17)) (y := .inl (ca 0, 17, .inl (iN (va_up av3 j (av3 (j + 1)))))) h_43 (by omega)
        have h_54 := gm_pass (k := (h + 17)) (y := .inl (ca 0, 17, .inl (iN (va_up av3 j (av3 (j + 1)))))) h_44 (by omega)
        have h_55 := gm_pass (k := (h + 17)) (y := .inl (ca 0, 17, .inl (iN (va_up av3 j (av3 (j + 1)))))) h_45 (by omega)
        have h_56 := gm_up_self (gm_up (gm_up (gm_up Mv (h + 14) (.inl (ca 0, 17, .inl (iN (va_up av0 j (av0 (j + 1))))))) (h + 15) (.inl (ca 0, 17, .inl (iN (va_up av1 j (av1 (j + 1))))))) (h + 16) (.inl (ca 0, 17, .inl (iN (va_up av2 j (av2 (j + 1))))))) (h + 17) (.inl (ca 0, 17, .inl (iN (va_up av3 j (av3 (j + 1))))))
        refine lv_aload_n hx hb d_Mo_endFlow_76 rfl (lv_at hl 0 rfl) ?_
        refine gm_get (C := R_Mo) (T := F_Mo) (n := 44) hx hb htl i_Mo hown hK hP h_46 rfl 23 (by decide) (htl _ k_766) (fun _ h => h) rfl d_Mo_endFlow_77 ?_
        refine lv_iload_n hx hb d_Mo_endFlow_80 rfl (lv_at hl 1 rfl) ?_
        refine lv_aload_n hx hb d_Mo_endFlow_81 rfl (lv_at hl 0 rfl) ?_
        refine gm_get (C := R_Mo) (T := F_Mo) (n := 44) hx hb htl i_Mo hown hK hP h_46 rfl 23 (by decide) (htl _ k_766) (fun _ h => h) rfl d_Mo_endFlow_82 ?_
        refine lv_iload_n hx hb d_Mo_endFlow_85 rfl (lv_at hl 1 rfl) ?_
        refine lv_iconst (v := nI 1) hx hb d_Mo_endFlow_86 (by decide) ?_
        refine lv_iadd hx hb d_Mo_endFlow_87 ?_
        rw [show (nI j) + (nI 1) = nI (j + 1) from nI_add _ _]
        refine gz_iald hx hb hK hP 0 h_47 rfl (by omega) (by omega) d_Mo_endFlow_88 ?_
        refine gz_iast hx hb hK hP hS 0 h_47 rfl (by omega) (by omega) d_Mo_endFlow_89 (fun H locs hP hS => ?_)
        have hP : gm_P D cls A N (gm_up (gm_up (gm_up (gm_up (gm_up Mv (h + 14) (.inl (ca 0, 17, .inl (iN (va_up av0 j (av0 (j + 1))))))) (h + 15) (.inl (ca 0, 17, .inl (iN (va_up av1 j (av1 (j + 1))))))) (h + 16) (.inl (ca 0, 17, .inl (iN (va_up av2 j (av2 (j + 1))))))) (h + 17) (.inl (ca 0, 17, .inl (iN (va_up av3 j (av3 (j + 1))))))) (h + 18) (.inl (ca 0, 17, .inl (iN (va_up av4 j (av4 (j + 1))))))) H := hP
        have h_57 := gm_pass (k := (h + 18)) (y := .inl (ca 0, 17, .inl (iN (va_up av4 j (av4 (j + 1)))))) h_46 (gm_ne h_46 h_47 (fun h => by cases h))
        have h_58 := gm_pass (k := (h + 18)) (y := .inl (ca 0, 17, .inl (iN (va_up av4 j (av4 (j + 1)))))) h_48 (by omega)
        have h_59 := gm_pass (k := (h + 18)) (y := .inl (ca 0, 17, .inl (iN (va_up av4 j (av4 (j + 1)))))) h_49 (by omega)
        have h_60 := gm_pass (k := (h + 18)) (y := .inl (ca 0, 17, .inl (iN (va_up av4 j (av4 (j + 1)))))) h_50 (by omega)
        have h_61 := gm_pass (k := (h + 18)) (y := .inl (ca 0, 17, .inl (iN (va_up av4 j (av4 (j + 1)))))) h_51 (by omega)
        have h_62 := gm_pass (k := (h + 18)) (y := .inl (ca 0, 17, .inl (iN (va_up av4 j (av4 (j + 1)))))) h_52 (by omega)
        have h_63 := gm_pass (k := (h + 18)) (y := .inl (ca 0, 17, .inl (iN (va_up av4 j (av4 (j + 1)))))) h_53 (by omega)
        have h_64 := gm_pass (k := (h + 18)) (y := .inl (ca 0, 17, .inl (iN (va_up av4 j (av4 (j + 1)))))) h_54 (by omega)
        have h_65 := gm_pass (k := (h + 18)) (y := .inl (ca 0, 17, .inl (iN (va_up av4 j (av4 (j + 1)))))) h_55 (by omega)
        have h_66 := gm_pass (k := (h + 18)) (y := .inl (ca 0, 17, .inl (iN (va_up av4 j (av4 (j + 1)))))) h_56 (by omega)
        have h_67 := gm_up_self (gm_up (gm_up (gm_up (gm_up Mv (h + 14) (.inl (ca 0, 17, .inl (iN (va_up av0 j (av0 (j + 1))))))) (h + 15) (.inl (ca 0, 17, .inl (iN (va_up av1 j (av1 (j + 1))))))) (h + 16) (.inl (ca 0, 17, .inl (iN (va_up av2 j (av2 (j + 1))))))) (h + 17) (.inl (ca 0, 17, .inl (iN (va_up av3 j (av3 (j + 1))))))) (h + 18) (.inl (ca 0, 17, .inl (iN (va_up av4 j (av4 (j + 1))))))
        refine lv_aload_n hx hb d_Mo_endFlow_90 rfl (lv_at hl 0 rfl) ?_
        refine gm_get (C := R_Mo) (T := F_Mo) (n := 44) hx hb htl i_Mo hown hK hP h_57 rfl 24 (by decide) (htl _ k_767) (fun _ h => h) rfl d_Mo_endFlow_91 ?_
        refine lv_iload_n hx hb d_Mo_endFlow_94 rfl (lv_at hl 1 rfl) ?_
        refine lv_aload_n hx hb d_Mo_endFlow_95 rfl (lv_at hl 0 rfl) ?_
        refine gm_get (C := R_Mo) (T := F_Mo) (n := 44) hx hb htl i_Mo hown hK hP h_57 rfl 24 (by decide) (htl _ k_767) (fun _ h => h) rfl d_Mo_endFlow_96 ?_
        refine lv_iload_n hx hb d_Mo_endFlow_99 rfl (lv_at hl 1 rfl) ?_
        refine lv_iconst (v := nI 1) hx hb d_Mo_endFlow_100 (by decide) ?_
        refine lv_iadd hx hb d_Mo_endFlow_101 ?_
        rw [show (nI j) + (nI 1) = nI (j + 1) from nI_add _ _]
        refine gz_iald hx hb hK hP 0 h_58 rfl (by omega) (by omega) d_Mo_endFlow_102 ?_
        refine gz_iast hx hb hK hP hS 0 h_58 rfl (by omega) (by omega) d_Mo_endFlow_103 (fun H locs hP hS => ?_)
        have hP : gm_P D cls A N (gm_up (gm_up (gm_up (gm_up (gm_up (gm_up Mv (h + 14) (.inl (ca 0, 17, .inl (iN (va_up av0 j (av0 (j + 1))))))) (h + 15) (.inl (ca 0, 17, .inl (iN (va_up av1 j (av1 (j + 1))))))) (h + 16) (.inl (ca 0, 17, .inl (iN (va_up av2 j (av2 (j + 1))))))) (h + 17) (.inl (ca 0, 17, .inl (iN (va_up av3 j (av3 (j + 1))))))) (h + 18) (.inl (ca 0, 17, .inl (iN (va_up av4 j (av4 (j + 1))))))) (h + 19) (.inl (ca 0, 17, .inl (iN (va_up av5 j (av5 (j + 1))))))) H := hP
        have h_68 := gm_pass (k := (h + 19)) (y := .inl (ca 0, 17, .inl (iN (va_up av5 j (av5 (j + 1)))))) h_57 (gm_ne h_57 h_58 (fun h => by cases h))
        have h_69 := gm_pass (k := (h + 19)) (y := .inl (ca 0, 17, .inl (iN (va_up av5 j (av5 (j + 1)))))) h_59 (by omega)
        have h_70 := gm_pass (k := (h + 19)) (y := .inl (ca 0, 17, .inl (iN (va_up av5 j (av5 (j + 1)))))) h_60 (by omega)
        have h_71 := gm_pass (k := (h + 19)) (y := .inl (ca 0, 17, .inl (iN (va_up av5 j (av5 (j + 1)))))) h_61 (by omega)
        have h_72 := gm_pass (k := (h + 19)) (y := .inl (ca 0, 17, .inl (iN (va_up av5 j (av5 (j + 1)))))) h_62 (by omega)
        have h_73 := gm_pass (k := (h + 19)) (y := .inl (ca 0, 17, .inl (iN (va_up av5 j (av5 (j + 1)))))) h_63 (by omega)
        have h_74 := gm_pass (k := (h + 19)) (y := .inl (ca 0, 17, .inl (iN (va_up av5 j (av5 (j + 1)))))) h_64 (by omega)
        have h_75 := gm_pass (k := (h + 19)) (y := .inl (ca 0, 17, .inl (iN (va_up av5 j (av5 (j + 1)))))) h_65 (by omega)
        have h_76 := gm_pass (k := (h + 19)) (y := .inl (ca 0, 17, .inl (iN (va_up av5 j (av5 (j + 1)))))) h_66 (by omega)
        have h_77 := gm_pass (k := (h + 19)) (y := .inl (ca 0, 17, .inl (iN (va_up av5 j (av5 (j + 1)))))) h_67 (by omega)
        have h_78 := gm_up_self (gm_up (gm_up (gm_up (gm_up (gm_up Mv (h + 14) (.inl (ca 0, 17, .inl (iN (va_up av0 j (av0 (j + 1))))))) (h + 15) (.inl (ca 0, 17, .inl (iN (va_up av1 j (av1 (j + 1))))))) (h + 16) (.inl (ca 0, 17, .inl (iN (va_up av2 j (av2 (j + 1))))))) (h + 17) (.inl (ca 0, 17, .inl (iN (va_up av3 j (av3 (j + 1))))))) (h + 18) (.inl (ca 0, 17, .inl (iN (va_up av4 j (av4 (j + 1))))))) (h + 19) (.inl (ca 0, 17, .inl (iN (va_up av5 j (av5 (j + 1))))))
        refine lv_aload_n hx hb d_Mo_endFlow_104 rfl (lv_at hl 0 rfl) ?_
        refine gm_get (C := R_Mo) (T := F_Mo) (n := 44) hx hb htl i_Mo hown hK hP h_68 rfl 25 (by decide) (htl _ k_768) (fun _ h => h) rfl d_Mo_endFlow_105 ?_
        refine lv_iload_n hx hb d_Mo_endFlow_108 rfl (lv_at hl 1 rfl) ?_
        refine lv_aload_n hx hb d_Mo_endFlow_109 rfl (lv_at hl 0 rfl) ?_
        refine gm_get (C := R_Mo) (T := F_Mo) (n := 44) hx hb htl i_Mo hown hK hP h_68 rfl 25 (by decide) (htl _ k_768) (fun _ h => h) rfl d_Mo_endFlow_110 ?_
        refine lv_iload_n hx hb d_Mo_endFlow_113 rfl (lv_at hl 1 rfl) ?_
        refine lv_iconst (v := nI 1) hx hb d_Mo_endFlow_114 (by decide) ?_
        refine lv_iadd hx hb d_Mo_endFlow_115 ?_
        rw [show (nI j) + (nI 1) = nI (j + 1) from nI_add _ _]
        refine gz_iald hx hb hK hP 0 h_69 rfl (by omega) (by omega) d_Mo_endFlow_116 ?_
        refine gz_iast hx hb hK hP hS 0 h_69 rfl (by omega) (by omega) d_Mo_endFlow_117 (fun H locs hP hS => ?_)
        have hP : gm_P D cls A N (gm_up (gm_up (gm_up (gm_up (gm_up (gm_up (gm_up Mv (h + 14) (.inl (ca 0, 17, .inl (iN (va_up av0 j (av0 (j + 1))))))) (h + 15) (.inl (ca 0, 17, .inl (iN (va_up av1 j (av1 (j + 1))))))) (h + 16) (.inl (ca 0, 17, .inl (iN (va_up av2 j (av2 (j + 1))))))) (h + 17) (.inl (ca 0, 17, .inl (iN (va_up av3 j (av3 (j + 1))))))) (h + 18) (.inl (ca 0, 17, .inl (iN (va_up av4 j (av4 (j + 1))))))) (h + 19) (.inl (ca 0, 17, .inl (iN (va_up av5 j (av5 (j + 1))))))) (h + 20) (.inl (ca 0, 17, .inl (iN (va_up av6 j (av6 (j + 1))))))) H := hP
        have h_79 := gm_pass (k := (h + 20)) (y := .inl (ca 0, 17, .inl (iN (va_up av6 j (av6 (j + 1)))))) h_68 (gm_ne h_68 h_69 (fun h => by cases h))
        have h_80 := gm_pass (k := (h + 20)) (y := .inl (ca 0, 17, .inl (iN (va_up av6 j (av6 (j + 1)))))) h_70 (by omega)
        have h_81 := gm_pass (k := (h + 20)) (y := .inl (ca 0, 17, .inl (iN (va_up av6 j (av6 (j + 1)))))) h_71 (by omega)
        have h_82 := gm_pass (k := (h + 20)) (y := .inl (ca 0, 17, .inl (iN (va_up av6 j (av6 (j + 1)))))) h_72 (by omega)
        have h_83 := gm_pass (k := (h + 20)) (y := .inl (ca 0, 17, .inl (iN (va_up av6 j (av6 (j + 1)))))) h_73 (by omega)
        have h_84 := gm_pass (k := (h + 20)) (y := .inl (ca 0, 17, .inl (iN (va_up av6 j (av6 (j + 1)))))) h_74 (by omega)
        have h_85 := gm_pass (k := (h + 20)) (y := .inl (ca 0, 17, .inl (iN (va_up av6 j (av6 (j + 1)))))) h_75 (by omega)
        have h_86 := gm_pass (k := (h + 20)) (y := .inl (ca 0, 17, .inl (iN (va_up av6 j (av6 (j + 1)))))) h_76 (by omega)
        have h_87 := gm_pass (k := (h + 20)) (y := .inl (ca 0, 17, .inl (iN (va_up av6 j (av6 (j + 1)))))) h_77 (by omega)
        have h_88 := gm_pass (k := (h + 20)) (y := .inl (ca 0, 17, .inl (iN (va_up av6 j (av6 (j + 1)))))) h_78 (by omega)
        have h_89 := gm_up_self (gm_up (gm_up (gm_up (gm_up (gm_up (gm_up Mv (h + 14) (.inl (ca 0, 17, .inl (iN (va_up av0 j (av0 (j + 1))))))) (h + 15) (.inl (ca 0, 17, .inl (iN (va_up av1 j (av1 (j + 1))))))) (h + 16) (.inl (ca 0, 17, .inl (iN (va_up av2 j (av2 (j + 1))))))) (h + 17) (.inl (ca 0, 17, .inl (iN (va_up av3 j (av3 (j + 1))))))) (h + 18) (.inl (ca 0, 17, .inl (iN (va_up av4 j (av4 (j + 1))))))) (h + 19) (.inl (ca 0, 17, .inl (iN (va_up av5 j (av5 (j + 1))))))) (h + 20) (.inl (ca 0, 17, .inl (iN (va_up av6 j (av6 (j + 1))))))
        refine lv_aload_n hx hb d_Mo_endFlow_118 rfl (lv_at hl 0 rfl) ?_
        refine gm_get (C := R_Mo) (T := F_Mo) (n := 44) hx hb htl i_Mo hown hK hP h_79 rfl 26 (by decide) (htl _ k_769) (fun _ h => h) rfl d_Mo_endFlow_119 ?_
        refine lv_iload_n hx hb d_Mo_endFlow_122 rfl (lv_at hl 1 rfl) ?_
        refine lv_aload_n hx hb d_Mo_endFlow_123 rfl (lv_at hl 0 rfl) ?_
        refine gm_get (C := R_Mo) (T := F_Mo) (n := 44) hx hb htl i_Mo hown hK hP h_79 rfl 26 (by decide) (htl _ k_769) (fun _ h => h) rfl d_Mo_endFlow_124 ?_
        refine lv_iload_n hx hb d_Mo_endFlow_127 rfl (lv_at hl 1 rfl) ?_
        refine lv_iconst (v := nI 1) hx hb d_Mo_endFlow_128 (by decide) ?_
        refine lv_iadd hx hb d_Mo_endFlow_129 ?_
        rw [show (nI j) + (nI 1) = nI (j + 1) from nI_add _ _]
        refine gz_iald hx hb hK hP 0 h_80 rfl (by omega) (by omega) d_Mo_endFlow_130 ?_
        refine gz_iast hx hb hK hP hS 0 h_80 rfl (by omega) (by omega) d_Mo_endFlow_131 (fun H locs hP hS => ?_)
        have hP : gm_P D cls A N (gm_up (gm_up (gm_up (gm_up (gm_up (gm_up (gm_up (gm_up Mv (h + 14) (.inl (ca 0, 17, .inl (iN (va_up av0 j (av0 (j + 1))))))) (h + 15) (.inl (ca 0, 17, .inl (iN (va_up av1 j (av1 (j + 1))))))) (h + 16) (.inl (ca 0, 17, .inl (iN (va_up av2 j (av2 (j + 1))))))) (h + 17) (.inl (ca 0, 17, .inl (iN (va_up av3 j (av3 (j + 1))))))) (h + 18) (.inl (ca 0, 17, .inl (iN (va_up av4 j (av4 (j + 1))))))) (h + 19) (.inl (ca 0, 17, .inl (iN (va_up av5 j (av5 (j + 1))))))) (h + 20) (.inl (ca 0, 17, .inl (iN (va_up av6 j (av6 (j + 1))))))) (h + 21) (.inl (ca 0, 17, .inl (iN (va_up av7 j (av7 (j + 1))))))) H := hP
        have h_90 := gm_pass (k := (h + 21)) (y := .inl (ca 0, 17, .inl (iN (va_up av7 j (av7 (j + 1)))))) h_79 (gm_ne h_79 h_80 (fun h => by cases h))
        have h_91 := gm_pass (k := (h + 21)) (y := .inl (ca 0, 17, .inl (iN (va_up av7 j (av7 (j + 1)))))) h_81 (by omega)
        have h_92 := gm_pass (k := (h + 21)) (y := .inl (ca 0, 17, .inl (iN (va_up av7 j (av7 (j + 1)))))) h_82 (by omega)
        have h_93 := gm_pass (k := (h + 21)) (y := .inl (ca 0, 17, .inl (iN (va_up av7 j (av7 (j + 1)))))) h_83 (by omega)
        have h_94 := gm_pass (k := (h + 21)) (y := .inl (ca 0, 17, .inl (iN (va_up av7 j (av7 (j + 1)))))) h_84 (by omega)
        have h_95 := gm_pass (k := (h + 21)) (y := .inl (ca 0, 17, .inl (iN (va_up av7 j (av7 (j + 1)))))) h_85 (by omega)
        have h_96 := gm_pass (k := (h + 21)) (y := .inl (ca 0, 17, .inl (iN (va_up av7 j (av7 (j + 1)))))) h_86 (by omega)
        have h_97 := gm_pass (k := (h + 21)) (y := .inl (ca 0, 17, .inl (iN (va_up av7 j (av7 (j + 1)))))) h_87 (by omega)
        have h_98 := gm_pass (k := (h + 21)) (y := .inl (ca 0, 17, .inl (iN (va_up av7 j (av7 (j + 1)))))) h_88 (by omega)
        have h_99 := gm_pass (k := (h + 21)) (y := .inl (ca 0, 17, .inl (iN (va_up av7 j (av7 (j + 1)))))) h_89 (by omega)
        have h_100 := gm_up_self (gm_up (gm_up (gm_up (gm_up (gm_up (gm_up (gm_up Mv (h + 14) (.inl (ca 0, 17, .inl (iN (va_up av0 j (av0 (j + 1))))))) (h + 15) (.inl (ca 0, 17, .inl (iN (va_up av1 j (av1 (j + 1))))))) (h + 16) (.inl (ca 0, 17, .inl (iN (va_up av2 j (av2 (j + 1))))))) (h + 17) (.inl (ca 0, 17, .inl (iN (va_up av3 j (av3 (j + 1))))))) (h + 18) (.inl (ca 0, 17, .inl (iN (va_up av4 j (av4 (j + 1))))))) (h + 19) (.inl (ca 0, 17, .inl (iN (va_up av5 j (av5 (j + 1))))))) (h + 20) (.inl (ca 0, 17, .inl (iN (va_up av6 j (av6 (j + 1))))))) (h + 21) (.inl (ca 0, 17, .inl (iN (va_up av7 j (av7 (j + 1))))))
        refine lv_aload_n hx hb d_Mo_endFlow_132 rfl (lv_at hl 0 rfl) ?_
        refine gm_get (C := R_Mo) (T := F_Mo) (n := 44) hx hb htl i_Mo hown hK hP h_90 rfl 27 (by decide) (htl _ k_770) (fun _ h => h) rfl d_Mo_endFlow_133 ?_
        refine lv_iload_n hx hb d_Mo_endFlow_136 rfl (lv_at hl 1 rfl) ?_
        refine lv_aload_n hx hb d_Mo_endFlow_137 rfl (lv_at hl 0 rfl) ?_
        refine gm_get (C := R_Mo) (T := F_Mo) (n := 44) hx hb htl i_Mo hown hK hP h_90 rfl 27 (by decide) (htl _ k_770) (fun _ h => h) rfl d_Mo_endFlow_138 ?_
        refine lv_iload_n hx hb d_Mo_endFlow_141 rfl (lv_at hl 1 rfl) ?_
        refine lv_iconst (v := nI 1) hx hb d_Mo_endFlow_142 (by decide) ?_
        refine lv_iadd hx hb d_Mo_endFlow_143 ?_
        rw [show (nI j) + (nI 1) = nI (j + 1) from nI_add _ _]
        refine gz_iald hx hb hK hP 0 h_91 rfl (by omega) (by omega) d_Mo_endFlow_144 ?_
        refine gz_iast hx hb hK hP hS 0 h_91 rfl (by omega) (by omega) d_Mo_endFlow_145 (fun H locs hP hS => ?_)
        have hP : gm_P D cls A N (gm_up (gm_up (gm_up (gm_up (gm_up (gm_up (gm_up (gm_up (gm_up Mv (h + 14) (.inl (ca 0, 17, .inl (iN (va_up av0 j (av0 (j + 1))))))) (h + 15) (.inl (ca 0, 17, .inl (iN (va_up av1 j (av1 (j + 1))))))) (h + 16) (.inl (ca 0, 17, .inl (iN (va_up av2 j (av2 (j + 1))))))) (h + 17) (.inl (ca 0, 17, .inl (iN (va_up av3 j (av3 (j + 1))))))) (h + 18) (.inl (ca 0, 17, .inl (iN (va_up av4 j (av4 (j + 1))))))) (h + 19) (.inl (ca 0, 17, .inl (iN (va_up av5 j (av5 (j + 1))))))) (h + 20) (.inl (ca 0, 17, .inl (iN (va_up av6 j (av6 (j + 1))))))) (h + 21) (.inl (ca 0, 17, .inl (iN (va_up av7 j (av7 (j + 1))))))) (h + 22) (.inl (ca 0, 17, .inl (iN (va_up av8 j (av8 (j + 1))))))) H := hP
        have h_101 := gm_pass (k := (h + 22)) (y := .inl (ca 0, 17, .inl (iN (va_up av8 j (av8 (j + 1)))))) h_90 (gm_ne h_90 h_91 (fun h => by cases h))
        have h_102 := gm_pass (k := (h + 22)) (y := .inl (ca 0, 17, .inl (iN (va_up av8 j (av8 (j + 1)))))) h_92 (by omega)
        have h_103 := gm_pass (k := (h + 22)) (y := .inl (ca 0, 17, .inl (iN (va_up av8 j (av8 (j + 1)))))) h_93 (by omega)
        have h_104 := gm_pass (k := (h + 22)) (y := .inl (ca 0, 17, .inl (iN (va_up av8 j (av8 (j + 1)))))) h_94 (by omega)
        have h_105 := gm_pass (k := (h + 22)) (y := .inl (ca 0, 17, .inl (iN (va_up av8 j (av8 (j + 1)))))) h_95 (by omega)
        have h_106 := gm_pass (k := (h + 22)) (y := .inl (ca 0, 17, .inl (iN (va_up av8 j (av8 (j + 1)))))) h_96 (by omega)
        have h_107 := gm_pass (k := (h + 22)) (y := .inl (ca 0, 17, .inl (iN (va_up av8 j (av8 (j + 1)))))) h_97 (by omega)
        have h_108 := gm_pass (k := (h + 22)) (y := .inl (ca 0, 17, .inl (iN (va_up av8 j (av8 (j + 1)))))) h_98 (by omega)
        have h_109 := gm_pass (k := (h + 22)) (y := .inl (ca 0, 17, .inl (iN (va_up av8 j (av8 (j + 1)))))) h_99 (by omega)
        have h_110 := gm_pass (k := (h + 22)) (y := .inl (ca 0, 17, .inl (iN (va_up av8 j (av8 (j + 1)))))) h_100 (by omega)
        have h_111 := gm_up_self (gm_up (gm_up (gm_up (gm_up (gm_up (gm_up (gm_up (gm_up Mv (h + 14) (.inl (ca 0, 17, .inl (iN (va_up av0 j (av0 (j + 1))))))) (h + 15) (.inl (ca 0, 17, .inl (iN (va_up av1 j (av1 (j + 1))))))) (h + 16) (.inl (ca 0, 17, .inl (iN (va_up av2 j (av2 (j + 1))))))) (h + 17) (.inl (ca 0, 17, .inl (iN (va_up av3 j (av3 (j + 1))))))) (h + 18) (.inl (ca 0, 17, .inl (iN (va_up av4 j (av4 (j + 1))))))) (h + 19) (.inl (ca 0, 17, .inl (iN (va_up av5 j (av5 (j + 1))))))) (h + 20) (.inl (ca 0, 17, .inl (iN (va_up av6 j (av6 (j + 1))))))) (h + 21) (.inl (ca 0, 17, .inl (iN (va_up av7 j (av7 (j + 1))))))) (h + 22) (.inl (ca 0, 17, .inl (iN (va_up av8 j (av8 (j + 1))))))
        refine lv_aload_n hx hb d_Mo_endFlow_146 rfl (lv_at hl 0 rfl) ?_
        refine gm_get (C := R_Mo) (T := F_Mo) (n := 44) hx hb htl i_Mo hown hK hP h_101 rfl 28 (by decide) (htl _ k_771) (fun _ h => h) rfl d_Mo_endFlow_147 ?_
        refine lv_iload_n hx hb d_Mo_endFlow_150 rfl (lv_at hl 1 rfl) ?_
        refine lv_aload_n hx hb d_Mo_endFlow_151 rfl (lv_at hl 0 rfl) ?_
        refine gm_get (C := R_Mo) (T := F_Mo) (n := 44) hx hb htl i_Mo hown hK hP h_101 rfl 28 (by decide) (htl _ k_771) (fun _ h => h) rfl d_Mo_endFlow_152 ?_
        refine lv_iload_n hx hb d_Mo_endFlow_155 rfl (lv_at hl 1 rfl) ?_
        refine lv_iconst (v := nI 1) hx hb d_Mo_endFlow_156 (by decide) ?_
        refine lv_iadd hx hb d_Mo_endFlow_157 ?_
        rw [show (nI j) + (nI 1) = nI (j + 1) from nI_add _ _]
        refine gz_iald hx hb hK hP 0 h_102 rfl (by omega) (by omega) d_Mo_endFlow_158 ?_
        refine gz_iast hx hb hK hP hS 0 h_102 rfl (by omega) (by omega) d_Mo_endFlow_159 (fun H locs hP hS => ?_)
        have hP : gm_P D cls A N (gm_up (gm_up (gm_up (gm_up (gm_up (gm_up (gm_up (gm_up (gm_up (gm_up Mv (h + 14) (.inl (ca 0, 17, .inl (iN (va_up av0 j (av0 (j + 1))))))) (h + 15) (.inl (ca 0, 17, .inl (iN (va_up av1 j (av1 (j + 1))))))) (h + 16) (.inl (ca 0, 17, .inl (iN (va_up av2 j (av2 (j + 1))))))) (h + 17) (.inl (ca 0, 17, .inl (iN (va_up av3 j (av3 (j + 1))))))) (h + 18) (.inl (ca 0, 17, .inl (iN (va_up av4 j (av4 (j + 1))))))) (h + 19) (.inl (ca 0, 17, .inl (iN (va_up av5 j (av5 (j + 1))))))) (h + 20) (.inl (ca 0, 17, .inl (iN (va_up av6 j (av6 (j + 1))))))) (h + 21) (.inl (ca 0, 17, .inl (iN (va_up av7 j (av7 (j + 1))))))) (h + 22) (.inl (ca 0, 17, .inl (iN (va_up av8 j (av8 (j + 1))))))) (h + 23) (.inl (ca 0, 17, .inl (iN (va_up av9 j (av9 (j + 1))))))) H := hP
        have h_112 := gm_pass (k := (h + 23)) (y := .inl (ca 0, 17, .inl (iN (va_up av9 j (av9 (j + 1)))))) h_101 (gm_ne h_101 h_102 (fun h => by cases h))
        have h_113 := gm_pass (k := (h + 23)) (y := .inl (ca 0, 17, .inl (iN (va_up av9 j (av9 (j + 1)))))) h_103 (by omega)
        have h_114 := gm_pass (k := (h + 23)) (y := .inl (ca 0, 17, .inl (iN (va_up av9 j (av9 (j + 1)))))) h_104 (by omega)
        have h_115 := gm_pass (k := (h + 23)) (y := .inl (ca 0, 17, .inl (iN (va_up av9 j (av9 (j + 1)))))) h_105 (by omega)
        have h_116 := gm_pass (k := (h + 23)) (y := .inl (ca 0, 17, .inl (iN (va_up av9 j (av9 (j + 1)))))) h_106 (by omega)
        have h_117 := gm_pass (k := (h + 23)) (y := .inl (ca 0, 17, .inl (iN (va_up av9 j (av9 (j + 1)))))) h_107 (by omega)
        have h_118 := gm_pass (k := (h + 23)) (y := .inl (ca 0, 17, .inl (iN (va_up av9 j (av9 (j + 1)))))) h_108 (by omega)
        have h_119 := gm_pass (k := (h + 23)) (y := .inl (ca 0, 17, .inl (iN (va_up av9 j (av9 (j + 1)))))) h_109 (by omega)
        have h_120 := gm_pass (k := (h + 23)) (y := .inl (ca 0, 17, .inl (iN (va_up av9 j (av9 (j + 1)))))) h_110 (by omega)
        have h_121 := gm_pass (k := (h + 23)) (y := .inl (ca 0, 17, .inl (iN (va_up av9 j (av9 (j + 1)))))) h_111 (by omega)
        have h_122 := gm_up_self (gm_up (gm_up (gm_up (gm_up (gm_up (gm_up (gm_up (gm_up (gm_up Mv (h + 14) (.inl (ca 0, 17, .inl (iN (va_up av0 j (av0 (j + 1))))))) (h + 15) (.inl (ca 0, 17, .inl (iN (va_up av1 j (av1 (j + 1))))))) (h + 16) (.inl (ca 0, 17, .inl (iN (va_up av2 j (av2 (j + 1))))))) (h + 17) (.inl (ca 0, 17, .inl (iN (va_up av3 j (av3 (j + 1))))))) (h + 18) (.inl (ca 0, 17, .inl (iN (va_up av4 j (av4 (j + 1))))))) (h + 19) (.inl (ca 0, 17, .inl (iN (va_up av5 j (av5 (j + 1))))))) (h + 20) (.inl (ca 0, 17, .inl (iN (va_up av6 j (av6 (j + 1))))))) (h + 21) (.inl (ca 0, 17, .inl (iN (va_up av7 j (av7 (j + 1))))))) (h + 22) (.inl (ca 0, 17, .inl (iN (va_up av8 j (av8 (j + 1))))))) (h + 23) (.inl (ca 0, 17, .inl (iN (va_up av9 j (av9 (j + 1))))))
        refine lv_iinc (v := nI (j + 1)) (lv' := [(2, .int (nI (j + 1))), (0, .ref h)]) hx hb d_Mo_endFlow_160 hl (k := 1) rfl (nI_1 j) (by decide) rfl (fun ls hl => ?_)
        refine lv_goto (tgt := 12) hx hb d_Mo_endFlow_163 (by decide) ?_
        exact ih_12 (j + 1) (va_up av0 j (av0 (j + 1))) (va_up av1 j (av1 (j + 1))) (va_up av2 j (av2 (j + 1))) (va_up av3 j (av3 (j + 1))) (va_up av4 j (av4 (j + 1))) (va_up av5 j (av5 (j + 1))) (va_up av6 j (av6 (j + 1))) (va_up av7 j (av7 (j + 1))) (va_up av8 j (av8 (j + 1))) (va_up av9 j (av9 (j + 1))) _ ls _ _ h_112 h_113 h_114 h_115 h_116 h_117 h_118 h_119 h_120 h_121 h_122 (by omega) (by rw [hav0, shf_at (by omega), shf_s (by omega)]) (by rw [hav1, shf_at (by omega), shf_s (by omega)]) (by rw [hav2, shf_at (by omega), shf_s (by omega)]) (by rw [hav3, shf_at (by omega), shf_s (by omega)]) (by rw [hav4, shf_at (by omega), shf_s (by omega)]) (by rw [hav5, shf_at (by omega), shf_s (by omega)]) (by rw [hav6, shf_at (by omega), shf_s (by omega)]) (by rw [hav7, shf_at (by omega), shf_s (by omega)]) (by rw [hav8, shf_at (by omega), shf_s (by omega)]) (by rw [hav9, shf_at (by omega), shf_s (by omega)]) (fun z q0 r0 r1 r2 r3 r4 r5 r6 r7 r8 r9 => (gm_up_ne _ _ r9).trans ((gm_up_ne _ _ r8).trans ((gm_up_ne _ _ r7).trans ((gm_up_ne _ _ r6).trans ((gm_up_ne _ _ r5).trans ((gm_up_ne _ _ r4).trans ((gm_up_ne _ _ r3).trans ((gm_up_ne _ _ r2).trans ((gm_up_ne _ _ r1).trans ((gm_up_ne _ _ r0).trans ((hfrv z q0 r0 r1 r2 r3 r4 r5 r6 r7 r8 r9).trans (rfl)))))))))))) (by omega) hP hS (lv_sub hl [1, 0] rfl)
  exact loop_12 (_ + 1) k (mq 0) (mq 1) (mq 2) (mq 3) (mq 4) (mq 5) (mq 6) (mq 7) (mq 8) (mq 9) _ ls _ locs h_11 h_1 h_2 h_3 h_4 h_5 h_6 h_7 h_8 h_9 h_10 (⟨Nat.le_refl _, by omega⟩) ((shf_0 (mq 0) k).symm) ((shf_0 (mq 1) k).symm) ((shf_0 (mq 2) k).symm) ((shf_0 (mq 3) k).symm) ((shf_0 (mq 4) k).symm) ((shf_0 (mq 5) k).symm) ((shf_0 (mq 6) k).symm) ((shf_0 (mq 7) k).symm) ((shf_0 (mq 8) k).symm) ((shf_0 (mq 9) k).symm) (fun z q0 _ _ _ _ _ _ _ _ _ _ => (gm_up_ne _ _ q0).trans (rfl)) (Nat.lt_succ_self _) hP hS (lv_sub hl [1, 0] rfl)
end C37
