section C11
variable {l : Launch} {D : va_G} {ca : Nat → ClassId} {A : Nat → Prop} {G : gG} {N : Nat} {M : gm_M}

/-- the characters of an array are those of a text -/
def txt (f : Nat → Int32) (t : List Nat) : Prop := ∀ i, i < t.length → f i = nI (t.getD i 0)
theorem txt_nil (f : Nat → Int32) : txt f [] := fun i h => absurd h (Nat.not_lt_zero _)
theorem txt_snoc {f : Nat → Int32} {t : List Nat} {c : Nat} (h : txt f t) : txt (upd f t.length (nI c)) (t ++ [c]) := by
  intro i hi
  rw [List.length_append, List.length_singleton] at hi
  by_cases q : i = t.length
  · subst q
    rw [pk_us]
    simp [List.getD]
  · rw [pk_un q, h i (by omega)]
    simp [List.getD, List.getElem?_append_left (show i < t.length by omega)]
theorem txt_at {f : Nat → Int32} {t : List Nat} (h : txt f t) {i : Nat} (hi : i < t.length) : f i = nI (t.getD i 32) := by
  rw [h i hi]
  simp [List.getD, List.getElem?_eq_getElem hi]
theorem txt_out {t : List Nat} {i : Nat} (hi : t.length ≤ i) : t.getD i 32 = 32 := by simp [List.getD, List.getElem?_eq_none hi]
theorem txt_lt {t : List Nat} (h : ∀ c ∈ t, c < 256) (i : Nat) : t.getD i 32 < 256 := by
  rcases Nat.lt_or_ge i t.length with q | q
  · simp only [List.getD, List.getElem?_eq_getElem q, Option.getD_some]
    exact h _ (List.getElem_mem q)
  · rw [txt_out q]; decide
/-- a character that the line takes -/
def alw (x : Int32) : Prop := ∃ k, k < 22 ∧ x = nI (tc 0 k)
theorem tc0_lt : ∀ k, k < 22 → tc 0 k < 128 := by decide
theorem alw_in {x : Int32} (h : alw x) : ¬ x < 0 ∧ ¬ nI 255 < x := by
  obtain ⟨k, hk, rfl⟩ := h
  have := tc0_lt k hk
  exact ⟨nI_pos (by omega), nI_nlt (by omega) (by omega)⟩
/-- the digits of a number up to 255 -/
def digs (v : Nat) : List Nat := if 100 ≤ v then [48 + v / 100, 48 + v / 10 % 10, 48 + v % 10] else if 10 ≤ v then [48 + v / 10 % 10, 48 + v % 10] else [48 + v % 10]
set_option maxHeartbeats 4000000 in
set_option maxRecDepth 100000 in
theorem c_Li_isAllowed (x : Int32) : gC l D ca A G y_Li_isAllowed (.code y_Li_isAllowed b_Li_isAllowed 1 (some .boolean)) ({ frames := 4, cells := 0, slots := 0, locals := 91 }) N M [.int x] gm_i (fun (r : Int32) (N1 : Nat) (M1 : gm_M) => N = N1 ∧ (((alw x) ∧ M = M1 ∧ nI 1 = r) ∨ ((¬ alw x) ∧ M = M1 ∧ nI 0 = r))) := by
  refine gm_body (by decide) (Nat.le_of_ble_eq_true rfl) (fun p e s m below meth c ls hx hb hr hts hown hlk hml hnm hP hK hN hX hS hl => ?_)
  have htl : ∀ w ∈ LW, w.before _ s = true := fun w h => hts w (List.mem_cons_of_mem _ h)
  have hown : s.vm.findClass "PacketGate$Line" = some m.cls := hown
  have hl : lv_has ls 1 [(0, .int x)] := hl
  refine lv_iload_n hx hb d_Li_isAllowed_0 rfl (lv_at hl 0 rfl) ?_
  refine lv_sipush (v := nI 255) hx hb d_Li_isAllowed_1 (by decide) ?_
  refine gc_SN (n := 2) [.int x, .int (nI 255)] [] hx hb hml hown hts hK hN hX hP hS (c_Pg_isWithin x (nI 255)) hX.1.1 k_251 k_1 k_252 (by decide +kernel) ⟨by decide, by decide⟩ rfl hl.1 rfl (Nat.le_of_ble_eq_true rfl) d_Li_isAllowed_4 ⟨by decide, by decide⟩ (fun r N1 M_1 H locs hw hP hS => ?_)
  obtain ⟨rfl, hw⟩ := hw
  rcases hw with ⟨c_2, rfl, rfl⟩ | ⟨c_3, rfl, rfl⟩
  · skip
    refine W.eq (g2 := F0 m 7 ls [.int (nI 1)]) rfl ?_
    obtain ⟨j, hj, rfl⟩ := in_lift (by decide) c_2
    refine lv_if_eq (tgt := 24) hx hb d_Li_isAllowed_7 (by decide) (fun q => absurd q (by decide)) (fun _ => ?_)
    refine va_ldcS hx hb hown hX.2.2.1.1 d_Li_isAllowed_10 ?_
    refine lv_iload_n hx hb d_Li_isAllowed_12 rfl (lv_at hl 0 rfl) ?_
    refine lv_i2c (v := (nI j)) hx hb d_Li_isAllowed_13 (nI_i2c (by omega)) ?_
    refine gc_T (n := 1) [.int (nI j)] [] hx hb hml hown hts hK hN hX hP hS (c_St_indexOf1 0 j (by omega) (by omega)) (vk_recv hX.2.2.2.1 (by omega) hS) k_254 k_255 k_256 k_11 k_257 (by decide +kernel) ⟨by decide, by decide⟩ rfl hl.1 rfl (Nat.le_of_ble_eq_true rfl) d_Li_isAllowed_14 ⟨by decide, by decide⟩ (fun r N1 M_4 H locs hw hP hS => ?_)
    obtain ⟨rfl, hw⟩ := hw
    rcases hw with ⟨kv_5, c_6, c_7, c_8, rfl, rfl⟩ | ⟨c_9, rfl, rfl⟩
    · skip
      refine W.eq (g2 := F0 m 17 ls [.int (nI kv_5)]) rfl ?_
      have hk22 : kv_5 < 22 := c_6
      refine lz_lt (tgt := 24) hx hb d_Li_isAllowed_17 (by decide) (by omega) ?_
      refine lv_iconst (v := nI 1) hx hb d_Li_isAllowed_20 (by decide) ?_
      refine lv_goto (tgt := 25) hx hb d_Li_isAllowed_21 (by decide) ?_
      exact gc_zret hx hb hr hlk hP hS d_Li_isAllowed_25 rfl ⟨rfl, Or.inl ⟨⟨kv_5, hk22, congrArg nI c_7.symm⟩, rfl, rfl⟩⟩
    · skip
      refine W.eq (g2 := F0 m 17 ls [.int (-1)]) rfl ?_
      refine lv_if_lt (tgt := 24) hx hb d_Li_isAllowed_17 (by decide) (fun _ => ?_) (fun q => absurd q (by decide))
      refine lv_iconst (v := nI 0) hx hb d_Li_isAllowed_24 (by decide) ?_
      exact gc_zret hx hb hr hlk hP hS d_Li_isAllowed_25 rfl ⟨rfl, Or.inr ⟨fun ⟨k, hk, e⟩ => c_9 k hk ((nI_eq (by omega) (by have := tc0_lt k hk; omega)).mp e).symm, rfl, rfl⟩⟩
  · skip
    refine W.eq (g2 := F0 m 7 ls [.int (nI 0)]) rfl ?_
    refine lv_if_eq (tgt := 24) hx hb d_Li_isAllowed_7 (by decide) (fun _ => ?_) (fun q => absurd q (by decide))
    refine lv_iconst (v := nI 0) hx hb d_Li_isAllowed_24 (by decide) ?_
    exact gc_zret hx hb hr hlk hP hS d_Li_isAllowed_25 rfl ⟨rfl, Or.inr ⟨fun h => c_3 (alw_in h), rfl, rfl⟩⟩
set_option maxHeartbeats 4000000 in
set_option maxRecDepth 100000 in
theorem c_Li_isFull {x q : Nat} {t : List Nat} (e1 : M x = some (.inr (4, [.ref q, .int (nI t.length)]))) (ht : t.length ≤ 40) : gC l D ca A G y_Li_isFull (.code y_Li_isFull b_Li_isFull 1 (some .boolean)) ({ frames := 0, cells := 0, slots := 0, locals := 0 }) N M [.ref x] gm_i (fun (r : Int32) (N1 : Nat) (M1 : gm_M) => N = N1 ∧ (((t.length = 40) ∧ M = M1 ∧ nI 1 = r) ∨ ((t.length < 40) ∧ M = M1 ∧ nI 0 = r))) := by
  refine gm_body (by decide) (Nat.le_of_ble_eq_true rfl) (fun p e s m below meth c ls hx hb hr hts hown hlk hml hnm hP hK hN hX hS hl => ?_)
  have htl : ∀ w ∈ LW, w.before _ s = true := fun w h => hts w (List.mem_cons_of_mem _ h)
  have hown : s.vm.findClass "PacketGate$Line" = some m.cls := hown
  have hl : lv_has ls 1 [(0, .ref x)] := hl
  refine lv_aload_n hx hb d_Li_isFull_0 rfl (lv_at hl 0 rfl) ?_
  refine gm_get (C := R_Li) (T := F_Li) (n := 2) hx hb htl i_Li hown hK hP e1 rfl 1 (by decide) (htl _ k_32) (fun _ h => h) rfl d_Li_isFull_1 ?_
  refine lv_bipush (v := nI 40) hx hb d_Li_isFull_4 (by decide) ?_
  refine ln_lt (tgt := 13) hx hb d_Li_isFull_6 (by decide) (by omega) (by omega) (fun c_1 => ?_) (fun c_1 => ?_)
  · skip
    refine lv_iconst (v := nI 0) hx hb d_Li_isFull_13 (by decide) ?_
    exact gc_zret hx hb hr hlk hP hS d_Li_isFull_14 rfl (by first | exact ⟨rfl, Or.inl ⟨(by first | assumption | omega), rfl, rfl⟩⟩ | exact ⟨rfl, Or.inr ⟨(by first | assumption | omega), rfl, rfl⟩⟩)
  · skip
    refine lv_iconst (v := nI 1) hx hb d_Li_isFull_9 (by decide) ?_
    refine lv_goto (tgt := 14) hx hb d_Li_isFull_10 (by decide) ?_
    exact gc_zret hx hb hr hlk hP hS d_Li_isFull_14 rfl (by first | exact ⟨rfl, Or.inl ⟨(by first | assumption | omega), rfl, rfl⟩⟩ | exact ⟨rfl, Or.inr ⟨(by first | assumption | omega), rfl, rfl⟩⟩)
set_option maxHeartbeats 4000000 in
set_option maxRecDepth 100000 in
theorem c_Li_add {x q ch : Nat} {t : List Nat} {f : Nat → Int32} (e1 : M x = some (.inr (4, [.ref q, .int (nI t.length)]))) (e2 : M q = some (.inl (ca 1, 40, .inl f))) (ht : t.length < 40) (hc : ch < 256) (htx : txt f t) : gC l D ca A G y_Li_add (.code y_Li_add b_Li_add 2 none) ({ frames := 1, cells := 0, slots := 0, locals := 20 }) N M [.ref x, .int (nI ch)] gm_v (fun (_ : Unit) (N1 : Nat) (M1 : gm_M) => N = N1 ∧ ∃ (g : Nat → Int32), (txt g (t ++ [ch])) ∧ gm_up (gm_up M q (.inl (ca 1, 40, .inl g))) x (.inr (4, [.ref q, .int (nI (t ++ [ch]).length)])) = M1) := by
  refine gm_body (by decide) (Nat.le_of_ble_eq_true rfl) (fun p e s m below meth c ls hx hb hr hts hown hlk hml hnm hP hK hN hX hS hl => ?_)
  have htl : ∀ w ∈ LW, w.before _ s = true := fun w h => hts w (List.mem_cons_of_mem _ h)
  have hown : s.vm.findClass "PacketGate$Line" = some m.cls := hown
  have hl : lv_has ls 2 [(0, .ref x), (1, .int (nI ch))] := hl
  refine lv_aload_n hx hb d_Li_add_0 rfl (lv_at hl 0 rfl) ?_
  refine gc_V (q := (R_Li, F_Li, 2)) (n := 0) [] [] hx hb hml hown hts hK hN hX hP hS (c_Li_isFull e1 (by omega)) rfl e1 k_348 k_341 k_342 k_2 k_343 (by decide +kernel) ⟨by decide, by decide⟩ rfl hl.1 rfl (Nat.le_of_ble_eq_true rfl) d_Li_add_1 ⟨by decide, by decide⟩ (fun r N1 M_1 H locs hw hP hS => ?_)
  obtain ⟨rfl, hw⟩ := hw
  rcases hw with ⟨c_2, rfl, rfl⟩ | ⟨c_3, rfl, rfl⟩
  · skip
    refine W.eq (g2 := F0 m 4 ls [.int (nI 1)]) rfl ?_
    omega
  · skip
    refine W.eq (g2 := F0 m 4 ls [.int (nI 0)]) rfl ?_
    refine lv_if_ne (tgt := 27) hx hb d_Li_add_4 (by decide) (fun q => absurd q (by decide)) (fun _ => ?_)
    refine lv_aload_n hx hb d_Li_add_7 rfl (lv_at hl 0 rfl) ?_
    refine gm_get (C := R_Li) (T := F_Li) (n := 2) hx hb htl i_Li hown hK hP e1 rfl 0 (by decide) (htl _ k_31) (fun _ h => h) rfl d_Li_add_8 ?_
    refine lv_aload_n hx hb d_Li_add_11 rfl (lv_at hl 0 rfl) ?_
    refine gm_get (C := R_Li) (T := F_Li) (n := 2) hx hb htl i_Li hown hK hP e1 rfl 1 (by decide) (htl _ k_32) (fun _ h => h) rfl d_Li_add_12 ?_
    refine lv_iload_n hx hb d_Li_add_15 rfl (lv_at hl 1 rfl) ?_
    refine gn_cast hx hb hK hP hS 1 e2 rfl (by omega) (by omega) (by have := (pk_charN (q := ch) (by omega)).1; unfold vp_nar; rw [this]) d_Li_add_16 (fun H locs hP hS => ?_)
    have hP : gm_P D cls A N (gm_up M q (.inl (ca 1, 40, .inl (upd f t.length (nI ch))))) H := hP
    have h_4 := gm_pass (k := q) (y := .inl (ca 1, 40, .inl (upd f t.length (nI ch)))) e1 (gm_ne e1 e2 (fun h => by cases h))
    have h_5 := gm_up_self M q (.inl (ca 1, 40, .inl (upd f t.length (nI ch))))
    refine lv_aload_n hx hb d_Li_add_17 rfl (lv_at hl 0 rfl) ?_
    refine lv_dup hx hb d_Li_add_18 rfl ?_
    refine gm_get (C := R_Li) (T := F_Li) (n := 2) hx hb htl i_Li hown hK hP h_4 rfl 1 (by decide) (htl _ k_32) (fun _ h => h) rfl d_Li_add_19 ?_
    refine lv_iconst (v := nI 1) hx hb d_Li_add_22 (by decide) ?_
    refine lv_iadd hx hb d_Li_add_23 ?_
    rw [show (nI t.length) + (nI 1) = nI (t.length + 1) from nI_add _ _]
    refine gm_put (C := R_Li) (T := F_Li) (n := 2) (ty := .int) hx hb htl i_Li t_Li tk_Li n_Li hown hK hP hS h_4 rfl 1 (by decide) (htl _ k_32) (fun _ h => h) rfl (tk_Li 1 (by decide)) rfl rfl (Nat.le_of_ble_eq_true rfl) d_Li_add_24 (fun H locs hP hS => ?_)
    have hP : gm_P D cls A N (gm_up (gm_up M q (.inl (ca 1, 40, .inl (upd f t.length (nI ch))))) x (.inr (4, [.ref q, .int (nI (t.length + 1))]))) H := hP
    have h_6 := gm_pass (k := x) (y := .inr (4, [.ref q, .int (nI (t.length + 1))])) h_5 (gm_ne h_5 h_4 (fun h => by cases h))
    have h_7 := gm_up_self (gm_up M q (.inl (ca 1, 40, .inl (upd f t.length (nI ch))))) x (.inr (4, [.ref q, .int (nI (t.length + 1))]))
    exact gc_vret hx hb hr hlk hP hS d_Li_add_27 ⟨rfl, upd f t.length (nI ch), txt_snoc htx, (by rw [List.length_append]; rfl)⟩
set_option maxHeartbeats 4000000 in
set_option maxRecDepth 100000 in
theorem c_Li_digit (d : Nat) (hd : d ≤ 9) : gC l D ca A G y_Li_digit (.code y_Li_digit b_Li_digit 1 (some .char)) ({ frames := 0, cells := 0, slots := 0, locals := 0 }) N M [.int (nI d)] gm_i (fun (r : Int32) (N1 : Nat) (M1 : gm_M) => N = N1 ∧ M = M1 ∧ nI (48 + d) = r) := by
  refine gm_body (by decide) (Nat.le_of_ble_eq_true rfl) (fun p e s m below meth c ls hx hb hr hts hown hlk hml hnm hP hK hN hX hS hl => ?_)
  have htl : ∀ w ∈ LW, w.before _ s = true := fun w h => hts w (List.mem_cons_of_mem _ h)
  have hown : s.vm.findClass "PacketGate$Line" = some m.cls := hown
  have hl : lv_has ls 1 [(0, .int (nI d))] := hl
  refine lv_bipush (v := nI 48) hx hb d_Li_digit_0 (by decide) ?_
  refine lv_iload_n hx hb d_Li_digit_2 rfl (lv_at hl 0 rfl) ?_
  refine lv_iadd hx hb d_Li_digit_3 ?_
  rw [show (nI 48) + (nI d) = nI (48 + d) from nI_add _ _]
  refine lv_i2c (v := nI (48 + d)) hx hb d_Li_digit_4 (nI_i2c (by omega)) ?_
  exact gc_zret hx hb hr hlk hP hS d_Li_digit_5 (pk_charN (by omega)).1 ⟨rfl, rfl, rfl⟩
set_option maxHeartbeats 4000000 in
set_option maxRecDepth 100000 in
theorem c_Li_at {x q i : Nat} {t : List Nat} {f : Nat → Int32} (e1 : M x = some (.inr (4, [.ref q, .int (nI t.length)]))) (e2 : M q = some (.inl (ca 1, 40, .inl f))) (ht : t.length ≤ 40) (hi : i < 2 ^ 31) (htx : txt f t) (hcs : ∀ c ∈ t, c < 256) : gC l D ca A G y_Li_at (.code y_Li_at b_Li_at 2 (some .char)) ({ frames := 0, cells := 0, slots := 0, locals := 0 }) N M [.ref x, .int (nI i)] gm_i (fun (r : Int32) (N1 : Nat) (M1 : gm_M) => N = N1 ∧ M = M1 ∧ nI (t.getD i 32) = r) := by
  refine gm_body (by decide) (Nat.le_of_ble_eq_true rfl) (fun p e s m below meth c ls hx hb hr hts hown hlk hml hnm hP hK hN hX hS hl => ?_)
  have htl : ∀ w ∈ LW, w.before _ s = true := fun w h => hts w (List.mem_cons_of_mem _ h)
  have hown : s.vm.findClass "PacketGate$Line" = some m.cls := hown
  have hl : lv_has ls 2 [(0, .ref x), (1, .int (nI i))] := hl
  have h256 := txt_lt hcs i
  refine lv_iload_n hx hb d_Li_at_0 rfl (lv_at hl 1 rfl) ?_
  refine lz_lt (tgt := 21) hx hb d_Li_at_1 (by decide) (by omega) ?_
  refine lv_iload_n hx hb d_Li_at_4 rfl (lv_at hl 1 rfl) ?_
  refine lv_aload_n hx hb d_Li_at_5 rfl (lv_at hl 0 rfl) ?_
  refine gm_get (C := R_Li) (T := F_Li) (n := 2) hx hb htl i_Li hown hK hP e1 rfl 1 (by decide) (htl _ k_32) (fun _ h => h) rfl d_Li_at_6 ?_
  refine ln_ge (tgt := 21) hx hb d_Li_at_9 (by decide) (by omega) (by omega) (fun c_2 => ?_) (fun c_2 => ?_)
  · skip
    refine lv_bipush (v := nI 32) hx hb d_Li_at_21 (by decide) ?_
    exact gc_zret hx hb hr hlk hP hS d_Li_at_23 (pk_charN (by omega)).1 ⟨rfl, rfl, by rw [txt_out (by omega)]⟩
  · skip
    refine lv_aload_n hx hb d_Li_at_12 rfl (lv_at hl 0 rfl) ?_
    refine gm_get (C := R_Li) (T := F_Li) (n := 2) hx hb htl i_Li hown hK hP e1 rfl 0 (by decide) (htl _ k_31) (fun _ h => h) rfl d_Li_at_13 ?_
    refine lv_iload_n hx hb d_Li_at_16 rfl (lv_at hl 1 rfl) ?_
    refine gn_cald hx hb hK hP 1 e2 rfl (by omega) (by omega) d_Li_at_17 ?_
    rw [show f i = nI (t.getD i 32) from txt_at htx (by omega)]
    refine lv_goto (tgt := 23) hx hb d_Li_at_18 (by decide) ?_
    exact gc_zret hx hb hr hlk hP hS d_Li_at_23 (pk_charN (by omega)).1 ⟨rfl, rfl, rfl⟩
set_option maxHeartbeats 4000000 in
set_option maxRecDepth 100000 in
theorem c_Li_clear {x q : Nat} {t : List Nat} (e1 : M x = some (.inr (4, [.ref q, .int (nI t.length)]))) : gC l D ca A G y_Li_clear (.code y_Li_clear b_Li_clear 1 none) ({ frames := 0, cells := 0, slots := 0, locals := 0 }) N M [.ref x] gm_v (fun (_ : Unit) (N1 : Nat) (M1 : gm_M) => N = N1 ∧ gm_up M x (.inr (4, [.ref q, .int (nI ([] : List Nat).length)])) = M1) := by
  refine gm_body (by decide) (Nat.le_of_ble_eq_true rfl) (fun p e s m below meth c ls hx hb hr hts hown hlk hml hnm hP hK hN hX hS hl => ?_)
  have htl : ∀ w ∈ LW, w.before _ s = true := fun w h => hts w (List.mem_cons_of_mem _ h)
  have hown : s.vm.findClass "PacketGate$Line" = some m.cls := hown
  have hl : lv_has ls 1 [(0, .ref x)] := hl
  refine lv_aload_n hx hb d_Li_clear_0 rfl (lv_at hl 0 rfl) ?_
  refine lv_iconst (v := nI 0) hx hb d_Li_clear_1 (by decide) ?_
  refine gm_put (C := R_Li) (T := F_Li) (n := 2) (ty := .int) hx hb htl i_Li t_Li tk_Li n_Li hown hK hP hS e1 rfl 1 (by decide) (htl _ k_32) (fun _ h => h) rfl (tk_Li 1 (by decide)) rfl rfl (Nat.le_of_ble_eq_true rfl) d_Li_clear_2 (fun H locs hP hS => ?_)
  have hP : gm_P D cls A N (gm_up M x (.inr (4, [.ref q, .int (nI 0)]))) H := hP
  have h_1 := gm_up_self M x (.inr (4, [.ref q, .int (nI 0)]))
  exact gc_vret hx hb hr hlk hP hS d_Li_clear_5 ⟨rfl, rfl⟩
set_option maxHeartbeats 4000000 in
set_option maxRecDepth 100000 in
theorem c_Li_addNumber {x q v : Nat} {t : List Nat} {f : Nat → Int32} (e1 : M x = some (.inr (4, [.ref q, .int (nI t.length)]))) (e2 : M q = some (.inl (ca 1, 40, .inl f))) (ht : t.length + 3 ≤ 40) (hv : v ≤ 255) (htx : txt f t) : gC l D ca A G y_Li_addNumber (.code y_Li_addNumber b_Li_addNumber 2 none) ({ frames := 2, cells := 0, slots := 0, locals := 41 }) N M [.ref x, .int (nI v)] gm_v (fun (_ : Unit) (N1 : Nat) (M1 : gm_M) => N = N1 ∧ ∃ (g : Nat → Int32), (txt g (t ++ digs v)) ∧ gm_up (gm_up M q (.inl (ca 1, 40, .inl g))) x (.inr (4, [.ref q, .int (nI (t ++ digs v).length)])) = M1) := by
  refine gm_body (by decide) (Nat.le_of_ble_eq_true rfl) (fun p e s m below meth c ls hx hb hr hts hown hlk hml hnm hP hK hN hX hS hl => ?_)
  have htl : ∀ w ∈ LW, w.before _ s = true := fun w h => hts w (List.mem_cons_of_mem _ h)
  have hown : s.vm.findClass "PacketGate$Line" = some m.cls := hown
  have hl : lv_has ls 2 [(0, .ref x), (1, .int (nI v))] := hl
  refine lv_iload_n hx hb d_Li_addNumber_0 rfl (lv_at hl 1 rfl) ?_
  refine lv_bipush (v := nI 100) hx hb d_Li_addNumber_1 (by decide) ?_
  refine ln_lt (tgt := 17) hx hb d_Li_addNumber_3 (by decide) (by omega) (by omega) (fun c_1 => ?_) (fun c_1 => ?_)
  · skip
    refine lv_iload_n hx hb d_Li_addNumber_17 rfl (lv_at hl 1 rfl) ?_
    refine lv_bipush (v := nI 10) hx hb d_Li_addNumber_18 (by decide) ?_
    refine ln_lt (tgt := 37) hx hb d_Li_addNumber_20 (by decide) (by omega) (by omega) (fun c_2 => ?_) (fun c_2 => ?_)
    · skip
      refine lv_aload_n hx hb d_Li_addNumber_37 rfl (lv_at hl 0 rfl) ?_
      refine lv_iload_n hx hb d_Li_addNumber_38 rfl (lv_at hl 1 rfl) ?_
      refine lv_bipush (v := nI 10) hx hb d_Li_addNumber_39 (by decide) ?_
      refine lv_irem hx hb d_Li_addNumber_41 (by decide) ?_
      rw [show (nI v) - (nI v) / (nI 10) * (nI 10) = nI (v % 10) from pk_rem (by omega) (by decide) (by decide)]
      refine gc_S (n := 1) [.int (nI (v % 10))] [.ref x] hx hb hml hown hts hK hN hX hP hS (c_Li_digit (v % 10) (by omega)) k_473 k_474 k_2 k_475 (by decide +kernel) ⟨by decide, by decide⟩ rfl hl.1 rfl (Nat.le_of_ble_eq_true rfl) d_Li_addNumber_42 ⟨by decide, by decide⟩ (fun r N1 M_3 H locs hw hP hS => ?_)
      obtain ⟨rfl, hw⟩ := hw
      obtain ⟨rfl, rfl⟩ := hw
      refine W.eq (g2 := F0 m 45 ls [.int (nI (48 + (v % 10))), .ref x]) rfl ?_
      refine gc_V (q := (R_Li, F_Li, 2)) (n := 1) [.int (nI (48 + (v % 10)))] [] hx hb hml hown hts hK hN hX hP hS (c_Li_add e1 e2 (by first | omega | (simp only [List.length_append, List.length_singleton]; omega)) (by omega) htx) rfl e1 k_476 k_345 k_346 k_2 k_347 (by decide +kernel) ⟨by decide, by decide⟩ rfl hl.1 rfl (Nat.le_of_ble_eq_true rfl) d_Li_addNumber_45 ⟨by decide, by decide⟩ (fun r N1 M_4 H locs hw hP hS => ?_)
      obtain ⟨rfl, hw⟩ := hw
      obtain ⟨gv_5, c_6, rfl⟩ := hw
      have h_7 := gm_pass (k := q) (y := .inl (ca 1, 40, .inl gv_5)) e1 (gm_ne e1 e2 (fun h => by cases h))
      have h_8 := gm_up_self M q (.inl (ca 1, 40, .inl gv_5))
      have hP : gm_P D cls A N (gm_up (gm_up M q (.inl (ca 1, 40, .inl gv_5))) x (.inr (4, [.ref q, .int (nI (t ++ [(48 + (v % 10))]).length)]))) H := hP
      have h_9 := gm_pass (k := x) (y := .inr (4, [.ref q, .int (nI (t ++ [(48 + (v % 10))]).length)])) h_8 (gm_ne h_8 h_7 (fun h => by cases h))
      have h_10 := gm_up_self (gm_up M q (.inl (ca 1, 40, .inl gv_5))) x (.inr (4, [.ref q, .int (nI (t ++ [(48 + (v % 10))]).length)]))
      refine W.eq (g2 := F0 m 48 ls []) rfl ?_
      exact gc_vret hx hb hr hlk hP hS d_Li_addNumber_48 (by first | (exfalso; omega) | skip; have e : t ++ digs v = (t ++ [(48 + (v % 10))]) := by { unfold digs; repeat (first | rw [if_pos (by omega)] | rw [if_neg (by omega)]); try simp only [List.append_assoc, List.cons_append, List.nil_append] }; rw [e]; exact ⟨rfl, _, c_6, rfl⟩)
    · skip
      refine lv_aload_n hx hb d_Li_addNumber_23 rfl (lv_at hl 0 rfl) ?_
      refine lv_iload_n hx hb d_Li_addNumber_24 rfl (lv_at hl 1 rfl) ?_
      refine lv_bipush (v := nI 10) hx hb d_Li_addNumber_25 (by decide) ?_
      refine lv_idiv hx hb d_Li_addNumber_27 (by decide) ?_
      rw [show (nI v) / (nI 10) = nI (v / 10) from pk_div (by omega) (by decide) (by decide)]
      refine lv_bipush (v := nI 10) hx hb d_Li_addNumber_28 (by decide) ?_
      refine lv_irem hx hb d_Li_addNumber_30 (by decide) ?_
      rw [show (nI (v / 10)) - (nI (v / 10)) / (nI 10) * (nI 10) = nI ((v / 10) % 10) from pk_rem (by omega) (by decide) (by decide)]
      refine gc_S (n := 1) [.int (nI ((v / 10) % 10))] [.ref x] hx hb hml hown hts hK hN hX hP hS (c_Li_digit ((v / 10) % 10) (by omega)) k_473 k_474 k_2 k_475 (by decide +kernel) ⟨by decide, by decide⟩ rfl hl.1 rfl (Nat.le_of_ble_eq_true rfl) d_Li_addNumber_31 ⟨by decide, by decide⟩ (fun r N1 M_11 H locs hw hP hS => ?_)
      obtain ⟨rfl, hw⟩ := hw
      obtain ⟨rfl, rfl⟩ := hw
      refine W.eq (g2 := F0 m 34 ls [.int (nI (48 + ((v / 10) % 10))), .ref x]) rfl ?_
      refine gc_V (q := (R_Li, F_Li, 2)) (n := 1) [.int (nI (48 + ((v / 10) % 10)))] [] hx hb hml hown hts hK hN hX hP hS (c_Li_add e1 e2 (by first | omega | (simp only [List.length_append, List.length_singleton]; omega)) (by omega) htx) rfl e1 k_476 k_345 k_346 k_2 k_347 (by decide +kernel) ⟨by decide, by decide⟩ rfl hl.1 rfl (Nat.le_of_ble_eq_true rfl) d_Li_addNumber_34 ⟨by decide, by decide⟩ (fun r N1 M_12 H locs hw hP hS => ?_)
      obtain ⟨rfl, hw⟩ := hw
      obtain ⟨gv_13, c_14, rfl⟩ := hw
      have h_15 := gm_pass (k := q) (y := .inl (ca 1, 40, .inl gv_13)) e1 (gm_ne e1 e2 (fun h => by cases h))
      have h_16 := gm_up_self M q (.inl (ca 1, 40, .inl gv_13))
      have hP : gm_P D cls A N (gm_up (gm_up M q (.inl (ca 1, 40, .inl gv_13))) x (.inr (4, [.ref q, .int (nI (t ++ [(48 + ((v / 10) % 10))]).length)]))) H := hP
      have h_17 := gm_pass (k := x) (y := .inr (4, [.ref q, .int (nI (t ++ [(48 + ((v / 10) % 10))]).length)])) h_16 (gm_ne h_16 h_15 (fun h => by cases h))
      have h_18 := gm_up_self (gm_up M q (.inl (ca 1, 40, .inl gv_13))) x (.inr (4, [.ref q, .int (nI (t ++ [(48 + ((v / 10) % 10))]).length)]))
      refine W.eq (g2 := F0 m 37 ls []) rfl ?_
      refine lv_aload_n hx hb d_Li_addNumber_37 rfl (lv_at hl 0 rfl) ?_
      refine lv_iload_n hx hb d_Li_addNumber_38 rfl (lv_at hl 1 rfl) ?_
      refine lv_bipush (v := nI 10) hx hb d_Li_addNumber_39 (by decide) ?_
      refine lv_irem hx hb d_Li_addNumber_41 (by decide) ?_
      rw [show (nI v) - (nI v) / (nI 10) * (nI 10) = nI (v % 10) from pk_rem (by omega) (by decide) (by decide)]
      refine gc_S (n := 1) [.int (nI (v % 10))] [.ref x] hx hb hml hown hts hK hN hX hP hS (c_Li_digit (v % 10) (by omega)) k_473 k_474 k_2 k_475 (by decide +kernel) ⟨by decide, by decide⟩ rfl hl.1 rfl (Nat.le_of_ble_eq_true rfl) d_Li_addNumber_42 ⟨by decide, by decide⟩ (fun r N1 M_19 H locs hw hP hS => ?_)
      obtain ⟨rfl, hw⟩ := hw
      obtain ⟨rfl, rfl⟩ := hw
      refine W.eq (g2 := F0 m 45 ls [.int (nI (48 + (v % 10))), .ref x]) rfl ?_
      refine gc_V (q := (R_Li, F_Li, 2)) (n := 1) [.int (nI (48 + (v % 10)))] [] hx hb hml hown hts hK hN hX hP hS (c_Li_add h_18 h_17 (by first | omega | (simp only [List.length_append, List.length_singleton]; omega)) (by omega) c_14) rfl h_18 k_476 k_345 k_346 k_2 k_347 (by decide +kernel) ⟨by decide, by decide⟩ rfl hl.1 rfl (Nat.le_of_ble_eq_true rfl) d_Li_addNumber_45 ⟨by decide, by decide⟩ (fun r N1 M_20 H locs hw hP hS => ?_)
      obtain ⟨rfl, hw⟩ := hw
      obtain ⟨gv_21, c_22, rfl⟩ := hw
      have he_23 : gm_up (gm_up (gm_up M q (.inl (ca 1, 40, .inl gv_13))) x (.inr (4, [.ref q, .int (nI (t ++ [(48 + ((v / 10) % 10))]).length)]))) q (.inl (ca 1, 40, .inl gv_21)) = gm_up (gm_up M q (.inl (ca 1, 40, .inl gv_21))) x (.inr (4, [.ref q, .int (nI (t ++ [(48 + ((v / 10) % 10))]).length)])) := (gm_swap (gm_ne h_18 h_17 (fun h => by cases h))).trans (congrArg (fun Z => gm_up Z x (.inr (4, [.ref q, .int (nI (t ++ [(48 + ((v / 10) % 10))]).length)]))) (gm_up_up _ _ _ _))
      have hP := Eq.mp (congrArg (fun Z => gm_P D cls A N (gm_up Z x (.inr (4, [.ref q, .int (nI ((t ++ [(48 + ((v / 10) % 10))]) ++ [(48 + (v % 10))]).length)]))) H) he_23) hP
      have h_24 := (congrFun he_23 _).symm.trans (gm_pass (k := q) (y := .inl (ca 1, 40, .inl gv_21)) h_18 (gm_ne h_18 h_17 (fun h => by cases h)))
      have h_25 := (congrFun he_23 _).symm.trans (gm_up_self (gm_up (gm_up M q (.inl (ca 1, 40, .inl gv_13))) x (.inr (4, [.ref q, .int (nI (t ++ [(48 + ((v / 10) % 10))]).length)]))) q (.inl (ca 1, 40, .inl gv_21)))
      have he_26 : gm_up (gm_up (gm_up M q (.inl (ca 1, 40, .inl gv_21))) x (.inr (4, [.ref q, .int (nI (t ++ [(48 + ((v / 10) % 10))]).length)]))) x (.inr (4, [.ref q, .int (nI ((t ++ [(48 + ((v / 10) % 10))]) ++ [(48 + (v % 10))]).length)])) = gm_up (gm_up M q (.inl (ca 1, 40, .inl gv_21))) x (.inr (4, [.ref q, .int (nI ((t ++ [(48 + ((v / 10) % 10))]) ++ [(48 + (v % 10))]).length)])) := gm_up_up _ _ _ _
      have hP := Eq.mp (congrArg (fun Z => gm_P D cls A N (Z) H) he_26) hP
      have hP : gm_P D cls A N (gm_up (gm_up M q (.inl (ca 1, 40, .inl gv_21))) x (.inr (4, [.ref q, .int (nI ((t ++ [(48 + ((v / 10) % 10))]) ++ [(48 + (v % 10))]).length)]))) H := hP
      have h_27 := (congrFun he_26 _).symm.trans (gm_pass (k := x) (y := .inr (4, [.ref q, .int (nI ((t ++ [(48 + ((v / 10) % 10))]) ++ [(48 + (v % 10))]).length)])) h_25 (gm_ne h_25 h_24 (fun h => by cases h)))
      have h_28 := (congrFun he_26 _).symm.trans (gm_up_self (gm_up (gm_up M q (.inl (ca 1, 40, .inl gv_21))) x (.inr (4, [.ref q, .int (nI (t ++ [(48 + ((v / 10) % 10))]).length)]))) x (.inr (4, [.ref q, .int (nI ((t ++ [(48 + ((v / 10) % 10))]) ++ [(48 + (v % 10))]).length)])))
      refine W.eq (g2 := F0 m 48 ls []) rfl ?_
      exact gc_vret hx hb hr hlk hP hS d_Li_addNumber_48 (by first | (exfalso; omega) | skip; have e : t ++ digs v = ((t ++ [(48 + ((v / 10) % 10))]) ++ [(48 + (v % 10))]) := by { unfold digs; repeat (first | rw [if_pos (by omega)] | rw [if_neg (by omega)]); try simp only [List.append_assoc, List.cons_append, List.nil_append] }; rw [e]; exact ⟨rfl, _, c_22, rfl⟩)
  · skip
    refine lv_aload_n hx hb d_Li_addNumber_6 rfl (lv_at hl 0 rfl) ?_
    refine lv_iload_n hx hb d_Li_addNumber_7 rfl (lv_at hl 1 rfl) ?_
    refine lv_bipush (v := nI 100) hx hb d_Li_addNumber_8 (by decide) ?_
    refine lv_idiv hx hb d_Li_addNumber_10 (by decide) ?_
    rw [show (nI v) / (nI 100) = nI (v / 100) from pk_div (by omega) (by decide) (by decide)]
    refine gc_S (n := 1) [.int (nI (v / 100))] [.ref x] hx hb hml hown hts hK hN hX hP hS (c_Li_digit (v / 100) (by omega)) k_473 k_474 k_2 k_475 (by decide +kernel) ⟨by decide, by decide⟩ rfl hl.1 rfl (Nat.le_of_ble_eq_true rfl) d_Li_addNumber_11 ⟨by decide, by decide⟩ (fun r N1 M_29 H locs hw hP hS => ?_)
    obtain ⟨rfl, hw⟩ := hw
    obtain ⟨rfl, rfl⟩ := hw
    refine W.eq (g2 := F0 m 14 ls [.int (nI (48 + (v / 100))), .ref x]) rfl ?_
    refine gc_V (q := (R_Li, F_Li, 2)) (n := 1) [.int (nI (48 + (v / 100)))] [] hx hb hml hown hts hK hN hX hP hS (c_Li_add e1 e2 (by first | omega | (simp only [List.length_append, List.length_singleton]; omega)) (by omega) htx) rfl e1 k_476 k_345 k_346 k_2 k_347 (by decide +kernel) ⟨by decide, by decide⟩ rfl hl.1 rfl (Nat.le_of_ble_eq_true rfl) d_Li_addNumber_14 ⟨by decide, by decide⟩ (fun r N1 M_30 H locs hw hP hS => ?_)
    obtain ⟨rfl, hw⟩ := hw
    obtain ⟨gv_31, c_32, rfl⟩ := hw
    have h_33 := gm_pass (k := q) (y := .inl (ca 1, 40, .inl gv_31)) e1 (gm_ne e1 e2 (fun h => by cases h))
    have h_34 := gm_up_self M q (.inl (ca 1, 40, .inl gv_31))
    have hP : gm_P D cls A N (gm_up (gm_up M q (.inl (ca 1, 40, .inl gv_31))) x (.inr (4, [.ref q, .int (nI (t ++ [(48 + (v / 100))]).length)]))) H := hP
    have h_35 := gm_pass (k := x) (y := .inr (4, [.ref q, .int (nI (t ++ [(48 + (v / 100))]).length)])) h_34 (gm_ne h_34 h_33 (fun h => by cases h))
    have h_36 := gm_up_self (gm_up M q (.inl (ca 1, 40, .inl gv_31))) x (.inr (4, [.ref q, .int (nI (t ++ [(48 + (v / 100))]).length)]))
    refine W.eq (g2 := F0 m 17 ls []) rfl ?_
    refine lv_iload_n hx hb d_Li_addNumber_17 rfl (lv_at hl 1 rfl) ?_
    refine lv_bipush (v := nI 10) hx hb d_Li_addNumber_18 (by decide) ?_
    refine ln_lt (tgt := 37) hx hb d_Li_addNumber_20 (by decide) (by omega) (by omega) (fun c_37 => ?_) (fun c_37 => ?_)
    · skip
      refine lv_aload_n hx hb d_Li_addNumber_37 rfl (lv_at hl 0 rfl) ?_
      refine lv_iload_n hx hb d_Li_addNumber_38 rfl (lv_at hl 1 rfl) ?_
      refine lv_bipush (v := nI 10) hx hb d_Li_addNumber_39 (by decide) ?_
      refine lv_irem hx hb d_Li_addNumber_41 (by decide) ?_
      rw [show (nI v) - (nI v) / (nI 10) * (nI 10) = nI (v % 10) from pk_rem (by omega) (by decide) (by decide)]
      refine gc_S (n := 1) [.int (nI (v % 10))] [.ref x] hx hb hml hown hts hK hN hX hP hS (c_Li_digit (v % 10) (by omega)) k_473 k_474 k_2 k_475 (by decide +kernel) ⟨by decide, by decide⟩ rfl hl.1 rfl (Nat.le_of_ble_eq_true rfl) d_Li_addNumber_42 ⟨by decide, by decide⟩ (fun r N1 M_38 H locs hw hP hS => ?_)
      obtain ⟨rfl, hw⟩ := hw
      obtain ⟨rfl, rfl⟩ := hw
      refine W.eq (g2 := F0 m 45 ls [.int (nI (48 + (v % 10))), .ref x]) rfl ?_
      refine gc_V (q := (R_Li, F_Li, 2)) (n := 1) [.int (nI (48 + (v % 10)))] [] hx hb hml hown hts hK hN hX hP hS (c_Li_add h_36 h_35 (by first | omega | (simp only [List.length_append, List.length_singleton]; omega)) (by omega) c_32) rfl h_36 k_476 k_345 k_346 k_2 k_347 (by decide +kernel) ⟨by decide, by decide⟩ rfl hl.1 rfl (Nat.le_of_ble_eq_true rfl) d_Li_addNumber_45 ⟨by decide, by decide⟩ (fun r N1 M_39 H locs hw hP hS => ?_)
      obtain ⟨rfl, hw⟩ := hw
      obtain ⟨gv_40, c_41, rfl⟩ := hw
      have he_42 : gm_up (gm_up (gm_up M q (.inl (ca 1, 40, .inl gv_31))) x (.inr (4, [.ref q, .int (nI (t ++ [(48 + (v / 100))]).length)]))) q (.inl (ca 1, 40, .inl gv_40)) = gm_up (gm_up M q (.inl (ca 1, 40, .inl gv_40))) x (.inr (4, [.ref q, .int (nI (t ++ [(48 + (v / 100))]).length)])) := (gm_swap (gm_ne h_36 h_35 (fun h => by cases h))).trans (congrArg (fun Z => gm_up Z x (.inr (4, [.ref q, .int (nI (t ++ [(48 + (v / 100))]).length)]))) (gm_up_up _ _ _ _))
      have hP := Eq.mp (congrArg (fun Z => gm_P D cls A N (gm_up Z x (.inr (4, [.ref q, .int (nI ((t ++ [(48 + (v / 100))]) ++ [(48 + (v % 10))]).length)]))) H) he_42) hP
      have h_43 := (congrFun he_42 _).symm.trans (gm_pass (k := q) (y := .inl (ca 1, 40, .inl gv_40)) h_36 (gm_ne h_36 h_35 (fun h => by cases h)))
      have h_44 := (congrFun he_42 _).symm.trans (gm_up_self (gm_up (gm_up M q (.inl (ca 1, 40, .inl gv_31))) x (.inr (4, [.ref q, .int (nI (t ++ [(48 + (v / 100))]).length)]))) q (.inl (ca 1, 40, .inl gv_40)))
      have he_45 : gm_up (gm_up (gm_up M q (.inl (ca 1, 40, .inl gv_40))) x (.inr (4, [.ref q, .int (nI (t ++ [(48 + (v / 100))]).length)]))) x (.inr (4, [.ref q, .int (nI ((t ++ [(48 + (v / 100))]) ++ [(48 + (v % 10))]).length)])) = gm_up (gm_up M q (.inl (ca 1, 40, .inl gv_40))) x (.inr (4, [.ref q, .int (nI ((t ++ [(48 + (v / 100))]) ++ [(48 + (v % 10))]).length)])) := gm_up_up _ _ _ _
      have hP := Eq.mp (congrArg (fun Z => gm_P D cls A N (Z) H) he_45) hP
      have hP : gm_P D cls A N (gm_up (gm_up M q (.inl (ca 1, 40, .inl gv_40))) x (.inr (4, [.ref q, .int (nI ((t ++ [(48 + (v / 100))]) ++ [(48 + (v % 10))]).length)]))) H := hP
      have h_46 := (congrFun he_45 _).symm.trans (gm_pass (k := x) (y := .inr (4, [.ref q, .int (nI ((t ++ [(48 + (v / 100))]) ++ [(48 + (v % 10))]).length)])) h_44 (gm_ne h_44 h_43 (fun h => by cases h)))
      have h_47 := (congrFun he_45 _).symm.trans (gm_up_self (gm_up (gm_up M q (.inl (ca 1, 40, .inl gv_40))) x (.inr (4, [.ref q, .int (nI (t ++ [(48 + (v / 100))]).length)]))) x (.inr (4, [.ref q, .int (nI ((t ++ [(48 + (v / 100))]) ++ [(48 + (v % 10))]).length)])))
      refine W.eq (g2 := F0 m 48 ls []) rfl ?_
      exact gc_vret hx hb hr hlk hP hS d_Li_addNumber_48 (by first | (exfalso; omega) | skip; have e : t ++ digs v = ((t ++ [(48 + (v / 100))]) ++ [(48 + (v % 10))]) := by { unfold digs; repeat (first | rw [if_pos (by omega)] | rw [if_neg (by omega)]); try simp only [List.append_assoc, List.cons_append, List.nil_append] }; rw [e]; exact ⟨rfl, _, c_41, rfl⟩)
    · skip
      refine lv_aload_n hx hb d_Li_addNumber_23 rfl (lv_at hl 0 rfl) ?_
      refine lv_iload_n hx hb d_Li_addNumber_24 rfl (lv_at hl 1 rfl) ?_
      refine lv_bipush (v := nI 10) hx hb d_Li_addNumber_25 (by decide) ?_
      refine lv_idiv hx hb d_Li_addNumber_27 (by decide) ?_
      rw [show (nI v) / (nI 10) = nI (v / 10) from pk_div (by omega) (by decide) (by decide)]
      refine lv_bipush (v := nI 10) hx hb d_Li_addNumber_28 (by decide) ?_
      refine lv_irem hx hb d_Li_addNumber_30 (by decide) ?_
      rw [show (nI (v / 10)) - (nI (v / 10)) / (nI 10) * (nI 10) = nI ((v / 10) % 10) from pk_rem (by omega) (by decide) (by decide)]
      refine gc_S (n := 1) [.int (nI ((v / 10) % 10))] [.ref x] hx hb hml hown hts hK hN hX hP hS (c_Li_digit ((v / 10) % 10) (by omega)) k_473 k_474 k_2 k_475 (by decide +kernel) ⟨by decide, by decide⟩ rfl hl.1 rfl (Nat.le_of_ble_eq_true rfl) d_Li_addNumber_31 ⟨by decide, by decide⟩ (fun r N1 M_48 H locs hw hP hS => ?_)
      obtain ⟨rfl, hw⟩ := hw
      obtain ⟨rfl, rfl⟩ := hw
      refine W.eq (g2 := F0 m 34 ls [.int (nI (48 + ((v / 10) % 10))), .ref x]) rfl ?_
      refine gc_V (q := (R_Li, F_Li, 2)) (n := 1) [.int (nI (48 + ((v / 10) % 10)))] [] hx hb hml hown hts hK hN hX hP hS (c_Li_add h_36 h_35 (by first | omega | (simp only [List.length_append, List.length_singleton]; omega)) (by omega) c_32) rfl h_36 k_476 k_345 k_346 k_2 k_347 (by decide +kernel) ⟨by decide, by decide⟩ rfl hl.1 rfl (Nat.le_of_ble_eq_true rfl) d_Li_addNumber_34 ⟨by decide, by decide⟩ (fun r N1 M_49 H locs hw hP hS => ?_)
      obtain ⟨rfl, hw⟩ := hw
      obtain ⟨gv_50, c_51, rfl⟩ := hw
      have he_52 : gm_up (gm_up (gm_up M q (.inl (ca 1, 40, .inl gv_31))) x (.inr (4, [.ref q, .int (nI (t ++ [(48 + (v / 100))]).length)]))) q (.inl (ca 1, 40, .inl gv_50)) = gm_up (gm_up M q (.inl (ca 1, 40, .inl gv_50))) x (.inr (4, [.ref q, .int (nI (t ++ [(48 + (v / 100))]).length)])) := (gm_swap (gm_ne h_36 h_35 (fun h => by cases h))).trans (congrArg (fun Z => gm_up Z x (.inr (4, [.ref q, .int (nI (t ++ [(48 + (v / 100))]).length)]))) (gm_up_up _ _ _ _))
      have hP := Eq.mp (congrArg (fun Z => gm_P D cls A N (gm_up Z x (.inr (4, [.ref q, .int (nI ((t ++ [(48 + (v / 100))]) ++ [(48 + ((v / 10) % 10))]).length)]))) H) he_52) hP
      have h_53 := (congrFun he_52 _).symm.trans (gm_pass (k := q) (y := .inl (ca 1, 40, .inl gv_50)) h_36 (gm_ne h_36 h_35 (fun h => by cases h)))
      have h_54 := (congrFun he_52 _).symm.trans (gm_up_self (gm_up (gm_up M q (.inl (ca 1, 40, .inl gv_31))) x (.inr (4, [.ref q, .int (nI (t ++ [(48 + (v / 100))]).length)]))) q (.inl (ca 1, 40, .inl gv_50)))
      have he_55 : gm_up (gm_up (gm_up M q (.inl (ca 1, 40, .inl gv_50))) x (.inr (4, [.ref q, .int (nI (t ++ [(48 + (v / 100))]).length)]))) x (.inr (4, [.ref q, .int (nI ((t ++ [(48 + (v / 100))]) ++ [(48 + ((v / 10) % 10))]).length)])) = gm_up (gm_up M q (.inl (ca 1, 40, .inl gv_50))) x (.inr (4, [.ref q, .int (nI ((t ++ [(48 + (v / 100))]) ++ [(48 + ((v / 10) % 10))]).length)])) := gm_up_up _ _ _ _
      have hP := Eq.mp (congrArg (fun Z => gm_P D cls A N (Z) H) he_55) hP
      have hP : gm_P D cls A N (gm_up (gm_up M q (.inl (ca 1, 40, .inl gv_50))) x (.inr (4, [.ref q, .int (nI ((t ++ [(48 + (v / 100))]) ++ [(48 + ((v / 10) % 10))]).length)]))) H := hP
      have h_56 := (congrFun he_55 _).symm.trans (gm_pass (k := x) (y := .inr (4, [.ref q, .int (nI ((t ++ [(48 + (v / 100))]) ++ [(48 + ((v / 10) % 10))]).length)])) h_54 (gm_ne h_54 h_53 (fun h => by cases h)))
      have h_57 := (congrFun he_55 _).symm.trans (gm_up_self (gm_up (gm_up M q (.inl (ca 1, 40, .inl gv_50))) x (.inr (4, [.ref q, .int (nI (t ++ [(48 + (v / 100))]).length)]))) x (.inr (4, [.ref q, .int (nI ((t ++ [(48 + (v / 100))]) ++ [(48 + ((v / 10) % 10))]).length)])))
      refine W.eq (g2 := F0 m 37 ls []) rfl ?_
      refine lv_aload_n hx hb d_Li_addNumber_37 rfl (lv_at hl 0 rfl) ?_
      refine lv_iload_n hx hb d_Li_addNumber_38 rfl (lv_at hl 1 rfl) ?_
      refine lv_bipush (v := nI 10) hx hb d_Li_addNumber_39 (by decide) ?_
      refine lv_irem hx hb d_Li_addNumber_41 (by decide) ?_
      rw [show (nI v) - (nI v) / (nI 10) * (nI 10) = nI (v % 10) from pk_rem (by omega) (by decide) (by decide)]
      refine gc_S (n := 1) [.int (nI (v % 10))] [.ref x] hx hb hml hown hts hK hN hX hP hS (c_Li_digit (v % 10) (by omega)) k_473 k_474 k_2 k_475 (by decide +kernel) ⟨by decide, by decide⟩ rfl hl.1 rfl (Nat.le_of_ble_eq_true rfl) d_Li_addNumber_42 ⟨by decide, by decide⟩ (fun r N1 M_58 H locs hw hP hS => ?_)
      obtain ⟨rfl, hw⟩ := hw
      obtain ⟨rfl, rfl⟩ := hw
      refine W.eq (g2 := F0 m 45 ls [.int (nI (48 + (v % 10))), .ref x]) rfl ?_
      refine gc_V (q := (R_Li, F_Li, 2)) (n := 1) [.int (nI (48 + (v % 10)))] [] hx hb hml hown hts hK hN hX hP hS (c_Li_add h_57 h_56 (by first | omega | (simp only [List.length_append, List.length_singleton]; omega)) (by omega) c_51) rfl h_57 k_476 k_345 k_346 k_2 k_347 (by decide +kernel) ⟨by decide, by decide⟩ rfl hl.1 rfl (Nat.le_of_ble_eq_true rfl) d_Li_addNumber_45 ⟨by decide, by decide⟩ (fun r N1 M_59 H locs hw hP hS => ?_)
      obtain ⟨rfl, hw⟩ := hw
      obtain ⟨gv_60, c_61, rfl⟩ := hw
      have he_62 : gm_up (gm_up (gm_up M q (.inl (ca 1, 40, .inl gv_50))) x (.inr (4, [.ref q, .int (nI ((t ++ [(48 + (v / 100))]) ++ [(48 + ((v / 10) % 10))]).length)]))) q (.inl (ca 1, 40, .inl gv_60)) = gm_up (gm_up M q (.inl (ca 1, 40, .inl gv_60))) x (.inr (4, [.ref q, .int (nI ((t ++ [(48 + (v / 100))]) ++ [(48 + ((v / 10) % 10))]).length)])) := (gm_swap (gm_ne h_57 h_56 (fun h => by cases h))).trans (congrArg (fun Z => gm_up Z x (.inr (4, [.ref q, .int (nI ((t ++ [(48 + (v / 100))]) ++ [(48 + ((v / 10) % 10))]).length)]))) (gm_up_up _ _ _ _))
      have hP := Eq.mp (congrArg (fun Z => gm_P D cls A N (gm_up Z x (.inr (4, [.ref q, .int (nI (((t ++ [(48 + (v / 100))]) ++ [(48 + ((v / 10) % 10))]) ++ [(48 + (v % 10))]).length)]))) H) he_62) hP
      have h_63 := (congrFun he_62 _).symm.trans (gm_pass (k := q) (y := .inl (ca 1, 40, .inl gv_60)) h_57 (gm_ne h_57 h_56 (fun h => by cases h)))
      have h_64 := (congrFun he_62 _).symm.trans (gm_up_self (gm_up (gm_up M q (.inl (ca 1, 40, .inl gv_50))) x (.inr (4, [.ref q, .int (nI ((t ++ [(48 + (v / 100))]) ++ [(48 + ((v / 10) % 10))]).length)]))) q (.inl (ca 1, 40, .inl gv_60)))
      have he_65 : gm_up (gm_up (gm_up M q (.inl (ca 1, 40, .inl gv_60))) x (.inr (4, [.ref q, .int (nI ((t ++ [(48 + (v / 100))]) ++ [(48 + ((v / 10) % 10))]).length)]))) x (.inr (4, [.ref q, .int (nI (((t ++ [(48 + (v / 100))]) ++ [(48 + ((v / 10) % 10))]) ++ [(48 + (v % 10))]).length)])) = gm_up (gm_up M q (.inl (ca 1, 40, .inl gv_60))) x (.inr (4, [.ref q, .int (nI (((t ++ [(48 + (v / 100))]) ++ [(48 + ((v / 10) % 10))]) ++ [(48 + (v % 10))]).length)])) := gm_up_up _ _ _ _
      have hP := Eq.mp (congrArg (fun Z => gm_P D cls A N (Z) H) he_65) hP
      have hP : gm_P D cls A N (gm_up (gm_up M q (.inl (ca 1, 40, .inl gv_60))) x (.inr (4, [.ref q, .int (nI (((t ++ [(48 + (v / 100))]) ++ [(48 + ((v / 10) % 10))]) ++ [(48 + (v % 10))]).length)]))) H := hP
      have h_66 := (congrFun he_65 _).symm.trans (gm_pass (k := x) (y := .inr (4, [.ref q, .int (nI (((t ++ [(48 + (v / 100))]) ++ [(48 + ((v / 10) % 10))]) ++ [(48 + (v % 10))]).length)])) h_64 (gm_ne h_64 h_63 (fun h => by cases h)))
      have h_67 := (congrFun he_65 _).symm.trans (gm_up_self (gm_up (gm_up M q (.inl (ca 1, 40, .inl gv_60))) x (.inr (4, [.ref q, .int (nI ((t ++ [(48 + (v / 100))]) ++ [(48 + ((v / 10) % 10))]).length)]))) x (.inr (4, [.ref q, .int (nI (((t ++ [(48 + (v / 100))]) ++ [(48 + ((v / 10) % 10))]) ++ [(48 + (v % 10))]).length)])))
      refine W.eq (g2 := F0 m 48 ls []) rfl ?_
      exact gc_vret hx hb hr hlk hP hS d_Li_addNumber_48 (by first | (exfalso; omega) | skip; have e : t ++ digs v = (((t ++ [(48 + (v / 100))]) ++ [(48 + ((v / 10) % 10))]) ++ [(48 + (v % 10))]) := by { unfold digs; repeat (first | rw [if_pos (by omega)] | rw [if_neg (by omega)]); try simp only [List.append_assoc, List.cons_append, List.nil_append] }; rw [e]; exact ⟨rfl, _, c_61, rfl⟩)
end C11
