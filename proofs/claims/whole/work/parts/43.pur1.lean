section C43
variable {l : Launch} {D : va_G} {ca : Nat → ClassId} {A : Nat → Prop} {G : gG} {N : Nat} {M : gm_M}

/-! the reference's reading of a line against the class's -/
theorem g32 {t : List Nat} {i : Nat} (h : t.length ≤ i) : t.getD i 32 = 32 := by simp [List.getD, List.getElem?_eq_none h]
theorem dgt_lt {t : List Nat} {i : Nat} (h : dgt t i) : i < t.length := by
  refine Nat.lt_of_not_le (fun q => ?_)
  unfold dgt at h
  rw [g32 q] at h
  omega
theorem in_lt {t : List Nat} {i c : Nat} (h : t.getD i 32 = c) (hc : ¬ c = 32) : i < t.length := by
  refine Nat.lt_of_not_le (fun q => ?_)
  rw [g32 q] at h
  omega
theorem le_if (l x : Nat) : (l ≤ if x < 255 then x else 255) ↔ l ≤ x ∧ l ≤ 255 := by split <;> omega
theorem cRf_s {n b w l : Nat} : cRf (n + 1) b w l = true ↔ (b ≤ 255 ∧ l ≤ b + w - 1 ∧ l ≤ 255) ∨ cRf n (b * 10) (w * 10) l = true := by
  by_cases h : b ≤ 255 ∧ l ≤ (if b + w - 1 < 255 then b + w - 1 else 255)
  · rw [cRf_t h]
    have h2 := (le_if _ _).mp h.2
    exact ⟨fun _ => Or.inl ⟨h.1, h2⟩, fun _ => rfl⟩
  · rw [cRf_f h]
    exact ⟨Or.inr, fun q => q.elim (fun z => absurd ⟨z.1, (le_if _ _).mpr z.2⟩ h) id⟩
theorem cRf_z {b w l : Nat} : cRf 0 b w l = true ↔ False := ⟨fun h => (by cases h), False.elim⟩
theorem cR_gF {d v ls : Nat} (h1 : 1 ≤ d) (h3 : d ≤ 3) : cRf (4 - d) v 1 ls = true ↔ v ≤ 255 ∧ ls ≤ gF v d := by
  rcases (show d = 1 ∨ d = 2 ∨ d = 3 by omega) with rfl | rfl | rfl
  · show cRf 3 v 1 ls = true ↔ _
    rw [cRf_s, cRf_s, cRf_s, cRf_z, or_false]
    unfold gF
    rw [if_neg (by decide), if_neg (by decide)]
    repeat' split
    all_goals omega
  · show cRf 2 v 1 ls = true ↔ _
    rw [cRf_s, cRf_s, cRf_z, or_false]
    unfold gF
    rw [if_neg (by decide), if_pos rfl]
    repeat' split
    all_goals omega
  · show cRf 1 v 1 ls = true ↔ _
    rw [cRf_s, cRf_z, or_false]
    unfold gF
    rw [if_pos rfl]
    omega
theorem nmb_d {t : List Nat} {s d ls : Nat} (h1 : 1 ≤ d) : nmb t s (s + d) ls ↔ d ≤ 3 ∧ (∀ i, s ≤ i → i < s + d → dgt t i) ∧ wth t s d ≤ 255 ∧ ls ≤ gF (wth t s d) d := by
  unfold nmb
  rw [show s + d - s = d by omega]
  constructor
  · intro ⟨a, b, c⟩; exact ⟨a, b, (cR_gF h1 a).mp c⟩
  · intro ⟨a, b, c⟩; exact ⟨a, b, (cR_gF h1 a).mpr c⟩
theorem rn_ok {t : List Nat} {ls s : Nat} : ∀ (f dg : Nat), f + dg = 4 → (∀ i, s ≤ i → i < s + dg → dgt t i) → (∀ d, 1 ≤ d → d ≤ dg → nmb t s (s + d) ls) → ∀ (o : Option Nat) (p : Nat), rn t ls f (s + dg) (wth t s dg) dg = (o, p) →
    ∃ D, p = s + D ∧ D ≤ 3 ∧ (∀ i, s ≤ i → i < s + D → dgt t i) ∧ (∀ d, 1 ≤ d → d ≤ D → nmb t s (s + d) ls) ∧ ((o = none ∧ dgt t (s + D) ∧ ¬ nmb t s (s + D + 1) ls) ∨ (¬ dgt t (s + D) ∧ ((o = none ∧ (D = 0 ∨ wth t s D < ls)) ∨ (o = some (wth t s D) ∧ 0 < D ∧ ls ≤ wth t s D)))) := by
  intro f
  induction f with
  | zero => intro dg h1 h2 h3; exfalso; have := (h3 4 (by omega) (by omega)).1; omega
  | succ f ih =>
    intro dg h1 h2 h3 o p h
    rw [rn_s] at h
    by_cases q : s + dg < t.length ∧ 48 ≤ t.getD (s + dg) 32 ∧ t.getD (s + dg) 32 ≤ 57
    · rw [if_pos q] at h
      have hd : dgt t (s + dg) := q.2
      have hall : ∀ i, s ≤ i → i < s + (dg + 1) → dgt t i := fun i a b => by
        by_cases z : i = s + dg
        · rw [z]; exact hd
        · exact h2 i a (by omega)
      have hw : wth t s dg * 10 + (t.getD (s + dg) 32 - 48) = wth t s (dg + 1) := by rw [wth]; omega
      rw [hw] at h
      by_cases z : 3 < dg + 1 ∨ 255 < wth t s (dg + 1) ∨ gF (wth t s (dg + 1)) (dg + 1) < ls
      · rw [if_pos z] at h
        cases h
        exact ⟨dg, rfl, by omega, h2, h3, Or.inl ⟨rfl, hd, fun n => by have := (nmb_d (d := dg + 1) (by omega)).mp n; omega⟩⟩
      · rw [if_neg z] at h
        refine ih (dg + 1) (by omega) hall (fun d a b => ?_) o p h
        by_cases e : d = dg + 1
        · rw [e]; exact (nmb_d (by omega)).mpr ⟨by omega, hall, by omega, by omega⟩
        · exact h3 d a (by omega)
    · rw [if_neg q] at h
      have hd : ¬ dgt t (s + dg) := fun d => q ⟨dgt_lt d, d⟩
      by_cases z : 0 < dg ∧ ls ≤ wth t s dg
      · rw [if_pos z] at h; cases h; exact ⟨dg, rfl, by omega, h2, h3, Or.inr ⟨hd, Or.inr ⟨rfl, z⟩⟩⟩
      · rw [if_neg z] at h; cases h; exact ⟨dg, rfl, by omega, h2, h3, Or.inr ⟨hd, Or.inl ⟨rfl, by omega⟩⟩⟩
theorem rg_0 (t : List Nat) (s : Nat) : rgF t s s = some none := by unfold rgF; rw [if_pos rfl]
theorem rg_dig {t : List Nat} {s k : Nat} (hk : s < k) (h42 : ¬ t.getD s 32 = 42) (hd : ∀ i, s ≤ i → i < k → dgt t i) : rgF t s k = if nmB t s k 0 = false then none else some (some (wth t s (k - s), wth t s (k - s))) := by
  have hf : fxt t 45 s k = k := fx_eq (by omega) (by omega) (fun j a b => by have := hd j a b; unfold dgt at this; omega) (Or.inl (Nat.le_refl _))
  unfold rgF
  rw [if_neg (by omega), if_neg h42, hf]
  by_cases q : nmB t s k 0 = false
  · rw [if_pos q, if_pos q]
  · rw [if_neg q, if_neg q, if_neg (by omega), if_pos rfl]
theorem rg_bad {t : List Nat} {s k e : Nat} (h42 : ¬ t.getD s 32 = 42) (hk : s < k) (he : fxt t 45 s k = e) (hn : ¬ nmb t s e 0 ∨ e = s) : rgF t s k = none := by
  unfold rgF
  rw [if_neg (by omega), if_neg h42, he]
  by_cases q : nmB t s e 0 = false
  · rw [if_pos q]
  · rw [if_neg q]
    rcases hn with hn | hn
    · exact absurd (nmB_f hn) q
    · rw [if_pos hn]
theorem rg_dash {t : List Nat} {s p k : Nat} (h42 : ¬ t.getD s 32 = 42) (hsp : s < p) (hpk : p < k) (hd : ∀ i, s ≤ i → i < p → dgt t i) (h45 : t.getD p 32 = 45) (hn : nmb t s p 0) : rgF t s k = if p + 1 = k then some none else if nmB t (p + 1) k (wth t s (p - s)) = false then none else if wth t s (p - s) ≤ wth t (p + 1) (k - (p + 1)) then some (some (wth t s (p - s), wth t (p + 1) (k - (p + 1)))) else some none := by
  have hf : fxt t 45 s k = p := fx_eq (by omega) (by omega) (fun j a b => by have := hd j a b; unfold dgt at this; omega) (Or.inr h45)
  unfold rgF
  rw [if_neg (by omega), if_neg h42, hf, if_neg (by rw [nmB_iff.mpr hn]; decide), if_neg (by omega), if_neg (by omega)]
/-- a range read from s on ends at p -/
def segG (t : List Nat) (s : Nat) (o : Option (Nat × Nat)) (p : Nat) : Prop := s ≤ p ∧ p ≤ t.length ∧ (∀ i, s ≤ i → i < p → ¬ t.getD i 32 = 44) ∧ (∀ k, s ≤ k → k ≤ p → rgF t s k ≠ none) ∧ (p < t.length → ¬ t.getD p 32 = 44 → rgF t s (p + 1) = none) ∧ (∀ q, o = some q → s < p ∧ rgF t s p = some (some q)) ∧ (o = none → rgF t s p = some none ∨ (p < t.length ∧ ¬ t.getD p 32 = 44))
theorem seg_ok {t : List Nat} {s p : Nat} {o : Option (Nat × Nat)} (hs : s ≤ t.length) (h : rrg t s = (o, p)) : segG t s o p := by
  by_cases h42 : t.getD s 32 = 42
  · rw [rrg_star h42] at h
    cases h
    have hl : s < t.length := in_lt h42 (by decide)
    have e1 : rgF t s (s + 1) = some (some (0, 255)) := by unfold rgF; rw [if_neg (by omega), if_pos h42, if_pos rfl]
    have e2 : rgF t s (s + 1 + 1) = none := by unfold rgF; rw [if_neg (by omega), if_pos h42, if_neg (by omega)]
    refine ⟨by omega, by omega, fun i a b => ?_, fun k a b => ?_, fun _ _ => e2, fun q hq => ?_, fun q => by cases q⟩
    · rw [show i = s by omega]; omega
    · by_cases z : k = s
      · rw [z, rg_0]; simp
      · rw [show k = s + 1 by omega, e1]; simp
    · cases hq; exact ⟨by omega, e1⟩
  · obtain ⟨o1, p1, h1⟩ : ∃ o1 p1, rn t 0 4 s 0 0 = (o1, p1) := ⟨_, _, rfl⟩
    obtain ⟨D, rfl, hD, hdg, hnm, hres⟩ := rn_ok (s := s) 4 0 rfl (fun i a b => absurd b (by omega)) (fun d a b => absurd b (by omega)) o1 p1 h1
    have hpre : ∀ k, s ≤ k → k ≤ s + D → rgF t s k ≠ none := by
      intro k a b
      by_cases z : k = s
      · rw [z, rg_0]; simp
      · have hn := hnm (k - s) (by omega) (by omega)
        rw [show s + (k - s) = k by omega] at hn
        rw [rg_dig (by omega) h42 (fun i x y => hdg i x (by omega)), if_neg (by rw [nmB_iff.mpr hn]; decide)]; simp
    have hnc : ∀ i, s ≤ i → i < s + D → ¬ t.getD i 32 = 44 := fun i a b => by have := hdg i a b; unfold dgt at this; omega
    have hle : s + D ≤ t.length := by
      by_cases z : D = 0
      · omega
      · have := dgt_lt (hdg (s + D - 1) (by omega) (by omega)); omega
    rcases hres with ⟨rfl, hb1, hb2⟩ | ⟨hnd, ⟨rfl, hz⟩ | ⟨rfl, hz1, hz2⟩⟩
    · rw [rrg_n0 h42 h1] at h
      cases h
      have hx : rgF t s (s + D + 1) = none := by
        refine rg_bad h42 (by omega) (fx_eq (i := s + D + 1) (by omega) (by omega) (fun j a b => ?_) (Or.inl (Nat.le_refl _))) (Or.inl hb2)
        have hj : dgt t j := by
          by_cases z : j = s + D
          · rw [z]; exact hb1
          · exact hdg j a (by omega)
        unfold dgt at hj
        omega
      exact ⟨by omega, hle, hnc, hpre, fun _ _ => hx, fun q hq => (by cases hq), fun _ => Or.inr ⟨dgt_lt hb1, by unfold dgt at hb1; omega⟩⟩
    · have hD0 : D = 0 := by omega
      subst hD0
      rw [rrg_n0 h42 h1] at h
      cases h
      refine ⟨by omega, hle, hnc, hpre, fun a b => ?_, fun q hq => (by cases hq), fun _ => Or.inl (rg_0 t s)⟩
      by_cases z : t.getD s 32 = 45
      · exact rg_bad h42 (by omega) (fx_eq (i := s) (by omega) (by omega) (fun j x y => absurd y (by omega)) (Or.inr z)) (Or.inr rfl)
      · exact rg_bad h42 (by omega) (fx_eq (i := s + 1) (by omega) (by omega) (fun j x y => by rw [show j = s by omega]; exact z) (Or.inl (Nat.le_refl _))) (Or.inl (fun n => hnd (n.2.1 s (by omega) (by omega))))
    · have hn := hnm D (by omega) (Nat.le_refl _)
      have hnB : rgF t s (s + D) = some (some (wth t s D, wth t s D)) := by
        rw [rg_dig (by omega) h42 hdg, if_neg (by rw [nmB_iff.mpr hn]; decide), show s + D - s = D by omega]
      by_cases h45 : t.getD (s + D) 32 = 45
      · obtain ⟨o2, p2, h2⟩ : ∃ o2 p2, rn t (wth t s D) 4 (s + D + 1) 0 0 = (o2, p2) := ⟨_, _, rfl⟩
        obtain ⟨E, rfl, hE, hdg2, hnm2, hres2⟩ := rn_ok (s := s + D + 1) 4 0 rfl (fun i a b => absurd b (by omega)) (fun d a b => absurd b (by omega)) o2 p2 h2
        have hl45 : s + D < t.length := in_lt h45 (by decide)
        have e0 : wth t s (s + D - s) = wth t s D := by rw [show s + D - s = D by omega]
        have hpre2 : ∀ k, s ≤ k → k ≤ s + D + 1 + E → rgF t s k ≠ none := by
          intro k a b
          by_cases z : k ≤ s + D
          · exact hpre k a z
          · rw [rg_dash h42 (by omega) (show s + D < k by omega) hdg h45 hn]
            by_cases y : s + D + 1 = k
            · rw [if_pos y]; simp
            · have hn2 := hnm2 (k - (s + D + 1)) (by omega) (by omega)
              rw [show s + D + 1 + (k - (s + D + 1)) = k by omega] at hn2
              rw [if_neg y, e0, if_neg (by rw [nmB_iff.mpr hn2]; decide)]
              split <;> simp
        have hnc2 : ∀ i, s ≤ i → i < s + D + 1 + E → ¬ t.getD i 32 = 44 := by
          intro i a b
          by_cases z : i < s + D
          · exact hnc i a z
          · by_cases y : i = s + D
            · rw [y]; omega
            · have := hdg2 i (by omega) b; unfold dgt at this; omega
        have hle2 : s + D + 1 + E ≤ t.length := by
          by_cases z : E = 0
          · omega
          · have := dgt_lt (hdg2 (s + D + 1 + E - 1) (by omega) (by omega)); omega
        have hbad : ¬ nmb t (s + D + 1) (s + D + 1 + E + 1) (wth t s D) → rgF t s (s + D + 1 + E + 1) = none := by
          intro hb
          rw [rg_dash h42 (by omega) (show s + D < s + D + 1 + E + 1 by omega) hdg h45 hn, if_neg (by omega), e0, if_pos (nmB_f hb)]
        rcases hres2 with ⟨rfl, hb1, hb2⟩ | ⟨hnd2, ⟨rfl, hz⟩ | ⟨rfl, hy1, hy2⟩⟩
        · rw [rrg_n1 h42 h1 h45 h2] at h
          cases h
          exact ⟨by omega, hle2, hnc2, hpre2, fun _ _ => hbad hb2, fun q hq => (by cases hq), fun _ => Or.inr ⟨dgt_lt hb1, by unfold dgt at hb1; omega⟩⟩
        · rw [rrg_n1 h42 h1 h45 h2] at h
          cases h
          refine ⟨by omega, hle2, hnc2, hpre2, fun _ _ => hbad (fun n => hnd2 (n.2.1 _ (by omega) (by omega))), fun q hq => (by cases hq), fun _ => Or.inl ?_⟩
          rw [rg_dash h42 (by omega) (show s + D < s + D + 1 + E by omega) hdg h45 hn]
          by_cases y : E = 0
          · rw [if_pos (by omega)]
          · have hn2 := hnm2 E (by omega) (Nat.le_refl _)
            rw [if_neg (by omega), e0, if_neg (by rw [nmB_iff.mpr hn2]; decide), show s + D + 1 + E - (s + D + 1) = E by omega, if_neg (by omega)]
        · rw [rrg_two h42 h1 h45 h2] at h
          cases h
          have hn2 := hnm2 E (by omega) (Nat.le_refl _)
          refine ⟨by omega, hle2, hnc2, hpre2, fun _ _ => hbad (fun n => hnd2 (n.2.1 _ (by omega) (by omega))), fun q hq => ?_, fun q => by cases q⟩
          cases hq
          refine ⟨by omega, ?_⟩
          rw [rg_dash h42 (by omega) (show s + D < s + D + 1 + E by omega) hdg h45 hn, if_neg (by omega), e0, if_neg (by rw [nmB_iff.mpr hn2]; decide), show s + D + 1 + E - (s + D + 1) = E by omega, if_pos hy2]
      · rw [rrg_one h42 h1 h45] at h
        cases h
        refine ⟨by omega, hle, hnc, hpre, fun _ _ => ?_, fun q hq => ?_, fun q => by cases q⟩
        · refine rg_bad h42 (by omega) (fx_eq (i := s + D + 1) (by omega) (by omega) (fun j a b => ?_) (Or.inl (Nat.le_refl _))) (Or.inl (fun n => hnd (n.2.1 (s + D) (by omega) (by omega))))
          by_cases z : j = s + D
          · rw [z]; exact h45
          · have := hdg j a (by omega); unfold dgt at this; omega
        · cases hq; exact ⟨by omega, hnB⟩
/-- one range of the reference's reading -/
noncomputable def lev {α : Type} (t : List Nat) (s k : Nat) (E : Nat × Nat → Option (Option α)) (C : Nat × Nat → Nat → Option (Option α)) : Option (Option α) := match rgF t s (fxt t 44 s k) with
  | none => none
  | some none => if fxt t 44 s k < k then none else some none
  | some (some q) => if fxt t 44 s k = k then E q else C q (fxt t 44 s k)
section LV
variable {α : Type} {t : List Nat} {s k p : Nat} {E : Nat × Nat → Option (Option α)} {C : Nat × Nat → Nat → Option (Option α)}
theorem lev_n (hs : s ≤ k) (hnc : ∀ i, s ≤ i → i < k → ¬ t.getD i 32 = 44) (h : rgF t s k = none) : lev t s k E C = none := by
  have hf : fxt t 44 s k = k := fx_eq hs (Nat.le_refl _) hnc (Or.inl (Nat.le_refl _))
  unfold lev; rw [hf, h]
theorem lev_0 (hs : s ≤ k) (hnc : ∀ i, s ≤ i → i < k → ¬ t.getD i 32 = 44) (h : rgF t s k = some none) : lev t s k E C = some none := by
  have hf : fxt t 44 s k = k := fx_eq hs (Nat.le_refl _) hnc (Or.inl (Nat.le_refl _))
  unfold lev; rw [hf, h]; simp only; rw [if_neg (Nat.lt_irrefl _)]
theorem lev_q {q : Nat × Nat} (hs : s ≤ k) (hnc : ∀ i, s ≤ i → i < k → ¬ t.getD i 32 = 44) (h : rgF t s k = some (some q)) : lev t s k E C = E q := by
  have hf : fxt t 44 s k = k := fx_eq hs (Nat.le_refl _) hnc (Or.inl (Nat.le_refl _))
  unfold lev; rw [hf, h]; simp only; exact if_pos trivial
theorem lev_cb (hs : s ≤ p) (hp : p < k) (hnc : ∀ i, s ≤ i → i < p → ¬ t.getD i 32 = 44) (h44 : t.getD p 32 = 44) (h : rgF t s p = some none) : lev t s k E C = none := by
  have hf : fxt t 44 s k = p := fx_eq hs (by omega) hnc (Or.inr h44)
  unfold lev; rw [hf, h]; simp only; rw [if_pos hp]
theorem lev_go {q : Nat × Nat} (hs : s ≤ p) (hp : p < k) (hnc : ∀ i, s ≤ i → i < p → ¬ t.getD i 32 = 44) (h44 : t.getD p 32 = 44) (h : rgF t s p = some (some q)) : lev t s k E C = C q p := by
  have hf : fxt t 44 s k = p := fx_eq hs (by omega) hnc (Or.inr h44)
  unfold lev; rw [hf, h]; simp only; rw [if_neg (by omega)]
theorem lev_pre {o : Option (Nat × Nat)} (h : segG t s o p) (hs : s ≤ k) (hk : k ≤ p) (hE : ∀ q, E q ≠ none) : lev t s k E C ≠ none := by
  have hnc : ∀ i, s ≤ i → i < k → ¬ t.getD i 32 = 44 := fun i a b => h.2.2.1 i a (by omega)
  have hr := h.2.2.2.1 k hs hk
  cases e : rgF t s k with
  | none => exact absurd e hr
  | some u => cases u with
    | none => rw [lev_0 hs hnc e]; simp
    | some q => rw [lev_q hs hnc e]; exact hE q
end LV
/-- a reading that goes well up to p and not beyond -/
def LVp {α : Type} (t : List Nat) (s p : Nat) (f : Nat → Option (Option α)) : Prop := (∀ k, s ≤ k → k ≤ p → f k ≠ none) ∧ s ≤ p ∧ p ≤ t.length ∧ (p < t.length → f (p + 1) = none) ∧ (p = t.length → f p = some none)
def SVp {α : Type} (t : List Nat) (s : Nat) (f : Nat → Option (Option α)) (v : α) : Prop := (∀ k, s ≤ k → k ≤ t.length → f k ≠ none) ∧ f t.length = some (some v)
section LV2
variable {α : Type} {t : List Nat} {s p p1 : Nat} {E : Nat × Nat → Option (Option α)} {C : Nat → Nat × Nat → Nat → Option (Option α)} {q : Nat × Nat}
theorem LV_none (h : segG t s none p) (hE : ∀ q, E q ≠ none) : LVp t s p (fun k => lev t s k E (C k)) := by
  refine ⟨fun k a b => lev_pre h a b hE, h.1, h.2.1, fun hp => ?_, fun hp => ?_⟩
  · by_cases z : t.getD p 32 = 44
    · refine lev_cb h.1 (by omega) h.2.2.1 z ((h.2.2.2.2.2.2 rfl).elim id (fun w => absurd z w.2))
    · refine lev_n (by have := h.1; omega) (fun i a b => ?_) (h.2.2.2.2.1 hp z)
      by_cases y : i = p
      · rw [y]; exact z
      · exact h.2.2.1 i a (by omega)
  · exact lev_0 h.1 h.2.2.1 ((h.2.2.2.2.2.2 rfl).elim id (fun w => absurd w.1 (by omega)))
theorem LV_stop (h : segG t s (some q) p) (hz : ¬ t.getD p 32 = 44) (hE : ∀ q, E q = some none) : LVp t s p (fun k => lev t s k E (C k)) := by
  refine ⟨fun k a b => lev_pre h a b (fun q => by rw [hE]; simp), h.1, h.2.1, fun hp => ?_, fun hp => ?_⟩
  · refine lev_n (by have := h.1; omega) (fun i a b => ?_) (h.2.2.2.2.1 hp hz)
    by_cases y : i = p
    · rw [y]; exact hz
    · exact h.2.2.1 i a (by omega)
  · show lev t s p E (C p) = _
    rw [lev_q h.1 h.2.2.1 (h.2.2.2.2.2.1 q rfl).2, hE]
theorem LV_last (h : segG t s (some q) p) (hp0 : ¬ p = t.length) (hE : ∀ q, E q ≠ none) (hC : ∀ k q e, C k q e = none) : LVp t s p (fun k => lev t s k E (C k)) := by
  refine ⟨fun k a b => lev_pre h a b hE, h.1, h.2.1, fun hp => ?_, fun hp => absurd hp hp0⟩
  by_cases hz : t.getD p 32 = 44
  · show lev t s (p + 1) E (C (p + 1)) = none
    rw [lev_go h.1 (Nat.lt_succ_self _) h.2.2.1 hz (h.2.2.2.2.2.1 q rfl).2, hC]
  · refine lev_n (by have := h.1; omega) (fun i a b => ?_) (h.2.2.2.2.1 hp hz)
    by_cases y : i = p
    · rw [y]; exact hz
    · exact h.2.2.1 i a (by omega)
theorem LV_next (h : segG t s (some q) p1) (hz : t.getD p1 32 = 44) (hE : ∀ q, E q ≠ none) (h2 : LVp t (p1 + 1) p (fun k => C k q p1)) : LVp t s p (fun k => lev t s k E (C k)) := by
  have hg : ∀ k, p1 < k → lev t s k E (C k) = C k q p1 := fun k hk => lev_go h.1 hk h.2.2.1 hz (h.2.2.2.2.2.1 q rfl).2
  have h0 := h.1
  have h1 := h2.2.1
  refine ⟨fun k a b => ?_, by omega, h2.2.2.1, fun hp => ?_, fun hp => ?_⟩
  · by_cases y : k ≤ p1
    · exact lev_pre h a y hE
    · show lev t s k E (C k) ≠ none
      rw [hg k (by omega)]; exact h2.1 k (by omega) b
  · show lev t s (p + 1) E (C (p + 1)) = none
    rw [hg _ (by omega)]; exact h2.2.2.2.1 hp
  · show lev t s p E (C p) = some none
    rw [hg _ (by omega)]; exact h2.2.2.2.2 hp
theorem SV_last {v : α} (h : segG t s (some q) t.length) (hE : ∀ q, E q ≠ none) (hv : E q = some (some v)) : SVp t s (fun k => lev t s k E (C k)) v := by
  refine ⟨fun k a b => lev_pre h a b hE, ?_⟩
  show lev t s t.length E (C t.length) = _
  rw [lev_q h.1 h.2.2.1 (h.2.2.2.2.2.1 q rfl).2, hv]
theorem SV_next {v : α} (h : segG t s (some q) p1) (hz : t.getD p1 32 = 44) (hE : ∀ q, E q ≠ none) (h2 : SVp t (p1 + 1) (fun k => C k q p1) v) : SVp t s (fun k => lev t s k E (C k)) v := by
  have hg : ∀ k, p1 < k → lev t s k E (C k) = C k q p1 := fun k hk => lev_go h.1 hk h.2.2.1 hz (h.2.2.2.2.2.1 q rfl).2
  have hl := in_lt hz (by decide)
  refine ⟨fun k a b => ?_, ?_⟩
  · by_cases y : k ≤ p1
    · exact lev_pre h a y hE
    · show lev t s k E (C k) ≠ none
      rw [hg k (by omega)]; exact h2.1 k (by omega) b
  · show lev t s t.length E (C t.length) = _
    rw [hg _ hl]; exact h2.2
end LV2
noncomputable abbrev lv3 (t : List Nat) (q0 q1 : Nat × Nat) (s k : Nat) : Option (Option (Nat × Nat × Nat × Nat × Nat × Nat)) := lev t s k (fun q2 => some (some (q0.1, q1.1, q2.1, q0.2, q1.2, q2.2))) (fun _ _ => none)
noncomputable abbrev lv2 (t : List Nat) (q0 : Nat × Nat) (s k : Nat) : Option (Option (Nat × Nat × Nat × Nat × Nat × Nat)) := lev t s k (fun _ => some none) (fun q1 e2 => lv3 t q0 q1 (e2 + 1) k)
noncomputable abbrev lv1 (t : List Nat) (k : Nat) : Option (Option (Nat × Nat × Nat × Nat × Nat × Nat)) := lev t 3 k (fun _ => some none) (fun q0 e1 => lv2 t q0 (e1 + 1) k)
theorem bgF_lev {t : List Nat} {k : Nat} (h : ltk t k) (hk : 3 < k) : bgF t k = lv1 t k := by
  have hb : ltB t k = true := decide_eq_true h
  unfold bgF
  rw [if_neg (by rw [hb]; decide), if_neg (by omega)]
  unfold lv1 lv2 lv3 lev
  rfl
theorem bg_small {t : List Nat} {k : Nat} (h : ltk t k) (hk : k ≤ 3) : bgF t k = some none := by
  have hb : ltB t k = true := decide_eq_true h
  unfold bgF
  rw [if_neg (by rw [hb]; decide), if_pos hk]
theorem bg_bad {t : List Nat} {k : Nat} (h : ¬ ltk t k) : bgF t k = none := by
  have hb : ltB t k = false := decide_eq_false h
  unfold bgF
  rw [if_pos hb]
theorem lix1_no {c : Nat} : lix 1 c = none ↔ ¬ (c = 80 ∨ c = 68 ∨ c = 83) := by
  have e : lix 1 c = if 80 = c then some 0 else if 68 = c then some 1 else if 83 = c then some 2 else none := rfl
  rw [e]
  repeat' split
  all_goals (simp; omega)
theorem lix2_no {c : Nat} : lix 2 c = none ↔ ¬ (c = 105 ∨ c = 111 ∨ c = 98) := by
  have e : lix 2 c = if 105 = c then some 0 else if 111 = c then some 1 else if 98 = c then some 2 else none := rfl
  rw [e]
  repeat' split
  all_goals (simp; omega)
theorem lix3_no {c : Nat} : lix 3 c = none ↔ ¬ (c = 116 ∨ c = 117 ∨ c = 101 ∨ c = 42) := by
  have e : lix 3 c = if 116 = c then some 0 else if 117 = c then some 1 else if 101 = c then some 2 else if 42 = c then some 3 else none := rfl
  rw [e]
  repeat' split
  all_goals (simp; omega)
theorem lix1_so {c k : Nat} (h : lix 1 c = some k) : c = 80 ∨ c = 68 ∨ c = 83 := Classical.byContradiction (fun q => by rw [lix1_no.mpr q] at h; cases h)
theorem lix2_so {c k : Nat} (h : lix 2 c = some k) : c = 105 ∨ c = 111 ∨ c = 98 := Classical.byContradiction (fun q => by rw [lix2_no.mpr q] at h; cases h)
theorem lix3_so {c k : Nat} (h : lix 3 c = some k) : c = 116 ∨ c = 117 ∨ c = 101 ∨ c = 42 := Classical.byContradiction (fun q => by rw [lix3_no.mpr q] at h; cases h)
theorem bg_of {t : List Nat} {p : Nat} (hl : ∀ k, ltk t k) (h : LVp t 3 p (fun k => lv1 t k)) : LVp t 0 p (fun k => bgF t k) := by
  have h1 := h.2.1
  have h2 := h.2.2.1
  refine ⟨fun k _ b => ?_, by omega, h2, fun hp => ?_, fun hp => ?_⟩
  · show bgF t k ≠ none
    by_cases z : k ≤ 3
    · rw [bg_small (hl k) z]; simp
    · rw [bgF_lev (hl k) (by omega)]; exact h.1 k (by omega) b
  · show bgF t (p + 1) = none
    rw [bgF_lev (hl _) (by omega)]; exact h.2.2.2.1 hp
  · show bgF t p = some none
    by_cases z : p ≤ 3
    · exact bg_small (hl _) z
    · rw [bgF_lev (hl _) (by omega)]; exact h.2.2.2.2 hp
theorem prs_none {t : List Nat} {p : Nat} (h : prs t = (none, p)) : LVp t 0 p (fun k => bgF t k) := by
  cases e0 : lix 1 (t.getD 0 32) with
  | none =>
    rw [letB_prs (p := 0) (by unfold letB; rw [if_pos e0])] at h
    cases h
    refine ⟨fun k _ b => ?_, Nat.le_refl _, Nat.zero_le _, fun hp => bg_bad (fun q => lix1_no.mp e0 (q.1 (by omega))), fun hp => bgF_0 t⟩
    show bgF t k ≠ none
    rw [show k = 0 by omega, bgF_0]; simp
  | some k0 =>
    have l0 := lix1_so e0
    have n0 : 0 < t.length := Nat.lt_of_not_le (fun q => by rw [g32 q] at l0; omega)
    cases e1 : lix 2 (t.getD 1 32) with
    | none =>
      rw [letB_prs (p := 1) (by unfold letB; rw [if_neg (by rw [e0]; simp), if_pos e1])] at h
      cases h
      have sm : ∀ k, k ≤ 1 → bgF t k = some none := fun k hk => bg_small ⟨fun _ => l0, fun q => absurd q (by omega), fun q => absurd q (by omega)⟩ (by omega)
      exact ⟨fun k _ b => by show bgF t k ≠ none; rw [sm k b]; simp, by omega, by omega, fun hp => bg_bad (fun q => lix2_no.mp e1 (q.2.1 (by omega))), fun hp => sm 1 (by omega)⟩
    | some k1 =>
      have l1 := lix2_so e1
      have n1 : 1 < t.length := Nat.lt_of_not_le (fun q => by rw [g32 q] at l1; omega)
      cases e2 : lix 3 (t.getD 2 32) with
      | none =>
        rw [letB_prs (p := 2) (by unfold letB; rw [if_neg (by rw [e0]; simp), if_neg (by rw [e1]; simp), if_pos e2])] at h
        cases h
        have sm : ∀ k, k ≤ 2 → bgF t k = some none := fun k hk => bg_small ⟨fun _ => l0, fun _ => l1, fun q => absurd q (by omega)⟩ (by omega)
        exact ⟨fun k _ b => by show bgF t k ≠ none; rw [sm k b]; simp, by omega, by omega, fun hp => bg_bad (fun q => lix3_no.mp e2 (q.2.2 (by omega))), fun hp => sm 2 (by omega)⟩
      | some k2 =>
        have l2 := lix3_so e2
        have n2 : 2 < t.length := Nat.lt_of_not_le (fun q => by rw [g32 q] at l2; omega)
        have hl : ∀ k, ltk t k := fun k => ⟨fun _ => l0, fun _ => l1, fun _ => l2⟩
        refine bg_of hl ?_
        have nE : ∀ q : Nat × Nat, (fun _ : Nat × Nat => (some none : Option (Option (Nat × Nat × Nat × Nat × Nat × Nat)))) q ≠ none := fun q => by simp
        obtain ⟨o1, p1, r1⟩ : ∃ o1 p1, rrg t 3 = (o1, p1) := ⟨_, _, rfl⟩
        have s1 := seg_ok (by omega) r1
        cases o1 with
        | none =>
          rw [prs_r1 e0 e1 e2 r1] at h; cases h
          exact LV_none (C := fun k q0 e1 => lv2 t q0 (e1 + 1) k) s1 nE
        | some q1 =>
          obtain ⟨a1, b1⟩ := q1
          by_cases c1 : t.getD p1 32 = 44
          · have m1 := in_lt c1 (by decide)
            obtain ⟨o2, p2, r2⟩ : ∃ o2 p2, rrg t (p1 + 1) = (o2, p2) := ⟨_, _, rfl⟩
            have s2 := seg_ok (by omega) r2
            refine LV_next (C := fun k q0 e1 => lv2 t q0 (e1 + 1) k) s1 c1 nE ?_
            cases o2 with
            | none =>
              rw [prs_r2 e0 e1 e2 r1 c1 r2] at h; cases h
              exact LV_none (C := fun k q1 e2 => lv3 t (a1, b1) q1 (e2 + 1) k) s2 nE
            | some q2 =>
              obtain ⟨a2, b2⟩ := q2
              by_cases c2 : t.getD p2 32 = 44
              · have m2 := in_lt c2 (by decide)
                obtain ⟨o3, p3, r3⟩ : ∃ o3 p3, rrg t (p2 + 1) = (o3, p3) := ⟨_, _, rfl⟩
                have s3 := seg_ok (by omega) r3
                refine LV_next (C := fun k q1 e2 => lv3 t (a1, b1) q1 (e2 + 1) k) s2 c2 nE ?_
                have nE3 : ∀ q : Nat × Nat, (fun q2 : Nat × Nat => (some (some ((a1, b1).1, (a2, b2).1, q2.1, (a1, b1).2, (a2, b2).2, q2.2)) : Option (Option (Nat × Nat × Nat × Nat × Nat × Nat)))) q ≠ none := fun q => by simp
                cases o3 with
                | none =>
                  rw [prs_r3 e0 e1 e2 r1 c1 r2 c2 r3] at h; cases h
                  exact LV_none (C := fun k _ _ => none) s3 nE3
                | some q3 =>
                  obtain ⟨a3, b3⟩ := q3
                  by_cases c3 : p3 = t.length
                  · rw [prs_ok e0 e1 e2 r1 c1 r2 c2 r3 c3] at h; cases h
                  · rw [prs_e e0 e1 e2 r1 c1 r2 c2 r3 c3] at h; cases h
                    exact LV_last (C := fun k _ _ => none) s3 c3 nE3 (fun _ _ _ => rfl)
              · rw [prs_c2 e0 e1 e2 r1 c1 r2 c2] at h; cases h
                exact LV_stop (C := fun k q1 e2 => lv3 t (a1, b1) q1 (e2 + 1) k) s2 c2 (fun _ => rfl)
          · rw [prs_c1 e0 e1 e2 r1 c1] at h; cases h
            exact LV_stop (C := fun k q0 e1 => lv2 t q0 (e1 + 1) k) s1 c1 (fun _ => rfl)
theorem prs_some {t : List Nat} {k0 k1 k2 a1 a2 a3 b1 b2 b3 p : Nat} (h : prs t = (some [k0, k1, k2, a1, a2, a3, b1, b2, b3], p)) : SVp t 0 (fun k => bgF t k) (a1, a2, a3, b1, b2, b3) ∧ lix 1 (t.getD 0 32) = some k0 ∧ lix 2 (t.getD 1 32) = some k1 ∧ lix 3 (t.getD 2 32) = some k2 := by
  cases e0 : lix 1 (t.getD 0 32) with
  | none => rw [letB_prs (p := 0) (by unfold letB; rw [if_pos e0])] at h; cases h
  | some x0 =>
    cases e1 : lix 2 (t.getD 1 32) with
    | none => rw [letB_prs (p := 1) (by unfold letB; rw [if_neg (by rw [e0]; simp), if_pos e1])] at h; cases h
    | some x1 =>
      cases e2 : lix 3 (t.getD 2 32) with
      | none => rw [letB_prs (p := 2) (by unfold letB; rw [if_neg (by rw [e0]; simp), if_neg (by rw [e1]; simp), if_pos e2])] at h; cases h
      | some x2 =>
        have l0 := lix1_so e0
        have l1 := lix2_so e1
        have l2 := lix3_so e2
        have n2 : 2 < t.length := Nat.lt_of_not_le (fun q => by rw [g32 q] at l2; omega)
        have hl : ∀ k, ltk t k := fun k => ⟨fun _ => l0, fun _ => l1, fun _ => l2⟩
        have nE : ∀ q : Nat × Nat, (fun _ : Nat × Nat => (some none : Option (Option (Nat × Nat × Nat × Nat × Nat × Nat)))) q ≠ none := fun q => by simp
        obtain ⟨o1, p1, r1⟩ : ∃ o1 p1, rrg t 3 = (o1, p1) := ⟨_, _, rfl⟩
        have s1 := seg_ok (by omega) r1
        cases o1 with
        | none => rw [prs_r1 e0 e1 e2 r1] at h; cases h
        | some q1 =>
          obtain ⟨u1, v1⟩ := q1
          by_cases c1 : t.getD p1 32 = 44
          · have m1 := in_lt c1 (by decide)
            obtain ⟨o2, p2, r2⟩ : ∃ o2 p2, rrg t (p1 + 1) = (o2, p2) := ⟨_, _, rfl⟩
            have s2 := seg_ok (by omega) r2
            cases o2 with
            | none => rw [prs_r2 e0 e1 e2 r1 c1 r2] at h; cases h
            | some q2 =>
              obtain ⟨u2, v2⟩ := q2
              by_cases c2 : t.getD p2 32 = 44
              · have m2 := in_lt c2 (by decide)
                obtain ⟨o3, p3, r3⟩ : ∃ o3 p3, rrg t (p2 + 1) = (o3, p3) := ⟨_, _, rfl⟩
                have s3 := seg_ok (by omega) r3
                cases o3 with
                | none => rw [prs_r3 e0 e1 e2 r1 c1 r2 c2 r3] at h; cases h
                | some q3 =>
                  obtain ⟨u3, v3⟩ := q3
                  by_cases c3 : p3 = t.length
                  · rw [prs_ok e0 e1 e2 r1 c1 r2 c2 r3 c3] at h; cases h
                    have nE3 : ∀ q : Nat × Nat, (fun q2 : Nat × Nat => (some (some ((a1, b1).1, (a2, b2).1, q2.1, (a1, b1).2, (a2, b2).2, q2.2)) : Option (Option (Nat × Nat × Nat × Nat × Nat × Nat)))) q ≠ none := fun q => by simp
                    have hv : SVp t 3 (fun k => lv1 t k) (a1, a2, a3, b1, b2, b3) := SV_next (C := fun k q0 e1 => lv2 t q0 (e1 + 1) k) s1 c1 nE (SV_next (C := fun k q1 e2 => lv3 t (a1, b1) q1 (e2 + 1) k) s2 c2 nE (SV_last (C := fun k _ _ => none) (by rw [c3] at s3; exact s3) nE3 rfl))
                    refine ⟨⟨fun k _ b => ?_, ?_⟩, rfl, rfl, rfl⟩
                    · show bgF t k ≠ none
                      by_cases z : k ≤ 3
                      · rw [bg_small (hl k) z]; simp
                      · rw [bgF_lev (hl k) (by omega)]; exact hv.1 k (by omega) b
                    · show bgF t t.length = _
                      have := s3.1
                      have := s2.1
                      have := s1.1
                      rw [bgF_lev (hl _) (by omega)]; exact hv.2
                  · rw [prs_e e0 e1 e2 r1 c1 r2 c2 r3 c3] at h; cases h
              · rw [prs_c2 e0 e1 e2 r1 c1 r2 c2] at h; cases h
          · rw [prs_c1 e0 e1 e2 r1 c1] at h; cases h
end C43
