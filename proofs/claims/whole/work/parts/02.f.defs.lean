def BasOk (M : Mem) (q : Nat) : Prop := bdf (M (q + 1)) 5 0 9 ∧ (0 ≤ M q 1 ∧ M q 1 ≤ 5) ∧ (0 ≤ M q 2 ∧ M q 2 ≤ 4) ∧ (0 ≤ M q 3 ∧ M q 3 ≤ 9)
def SiteOk (M : Mem) (s : Nat) : Prop := bdf (M (s + 1)) 8 0 20 ∧ (0 ≤ M s 2 ∧ M s 2 ≤ 3) ∧ BasOk M (s + 3) ∧ BasOk M (s + 5) ∧ BasOk M (s + 7)
def jnS (M : Mem) (s : Nat) : Nat → Int → Int := jnw (M (s + 1)) (fun b => M (s + 4 + 2 * b)) (fun b => M (s + 3 + 2 * b) 2) (fun b => M (s + 3 + 2 * b) 3)
theorem jnS_rng {M : Mem} {s : Nat} (h : SiteOk M s) : bdf (jnS M s (M s 2).toNat) 30 0 129600 := by
  obtain ⟨hR, hm, ⟨a0, -, -, n0⟩, ⟨a1, -, -, n1⟩, ⟨a2, -, -, n2⟩⟩ := h
  have h3 := jnw_rng (R := M (s + 1)) (A := fun b => M (s + 4 + 2 * b)) (K := fun b => M (s + 3 + 2 * b) 2) (N := fun b => M (s + 3 + 2 * b) 3) hR
    (fun b hb => by
      rcases (show b = 0 ∨ b = 1 ∨ b = 2 by omega) with rfl | rfl | rfl
      · exact a0
      · exact a1
      · exact a2)
    (fun b hb => by
      rcases (show b = 0 ∨ b = 1 ∨ b = 2 by omega) with rfl | rfl | rfl
      · exact n0.1
      · exact n1.1
      · exact n2.1) (M s 2).toNat (by omega)
  intro j j0 j1
  have h4 := h3 j j0 j1
  unfold jnS
  omega
/-- what an EVENT does: to RAIN, to a BASIN's cell -/
def sft (n : Int) (R : Int → Int) : Int → Int := fun h => if h < n then 0 else R (h - n)
def hapR (w n : Int) (R : Int → Int) : Int → Int := if w = 0 then up R n (min (2 * R n) 20) else if w = 1 then up R n 0 else if w = 2 then R else sft n R
def hapB (w n : Int) (i : Int) (B : Int → Int) : Int → Int := if w = 2 ∧ n = i then up B 2 0 else B
/-- digits of a number, the highest first -/
def dgn (v : Int) : Int := if v < 10 then 1 else if v < 100 then 2 else if v < 1000 then 3 else if v < 10000 then 4 else 5
def p10 (k : Int) : Int := if k = 0 then 1 else if k = 1 then 10 else if k = 2 then 100 else if k = 3 then 1000 else 10000
def dgt (v : Int) (n : Int) : Int → Int := fun k => if k < n then v / p10 (n - 1 - k) % 10 else 0
theorem fwt_t {R : Int → Int} {k : Nat} {h : Int} (c : 0 < R h) : fwt R (k + 1) h = h := by rw [fwt, if_pos c]
theorem fwt_f {R : Int → Int} {k : Nat} {h : Int} (c : ¬ 0 < R h) : fwt R (k + 1) h = fwt R k (h + 1) := by rw [fwt, if_neg c]
theorem rsc_t {R : Int → Int} {k : Nat} {h : Int} (c : ¬ R h = 0) : rsc R (k + 1) h = h := by rw [rsc, if_neg c]
theorem rsc_f {R : Int → Int} {k : Nat} {h : Int} (c : R h = 0) : rsc R (k + 1) h = rsc R k (h + 1) := by rw [rsc, if_pos c]
theorem fot_t {F S J : Int → Int} {k : Nat} {r : Int} (c : ¬ J (F r) = S r) : fot F S J (k + 1) r = r := by rw [fot, if_neg c]
theorem fot_f {F S J : Int → Int} {k : Nat} {r : Int} (c : J (F r) = S r) : fot F S J (k + 1) r = fot F S J k (r + 1) := by rw [fot, if_pos c]
theorem dvB_t {T D : Int → Int} {o n m a : Int} {k : Nat} (ha : 0 ≤ a) (c : whl (dvL T D o n a.toNat (o + a)) (D o) m) : dvB T D o n m (k + 1) a.toNat = dvB T D o n m k (a + 1).toNat := by rw [dvB_s ha, if_pos c]
theorem dvB_f {T D : Int → Int} {o n m a : Int} {k : Nat} (ha : 0 ≤ a) (c : ¬ whl (dvL T D o n a.toNat (o + a)) (D o) m) : dvB T D o n m (k + 1) a.toNat = a := by rw [dvB_s ha, if_neg c]
theorem nat_s {a b : Int} (h : b < a) : (a - b).toNat = (a - (b + 1)).toNat + 1 := by omega
theorem unfR_a {T A : Int → Int} {h : Int} (h0 : 0 ≤ h) (hb : dvB T A 0 5 20 8 0 = h) : unfR T A = h := by unfold unfR; rw [hb, if_pos h0]
theorem unfR_b {T A : Int → Int} (hb : dvB T A 0 5 20 8 0 = -1) (hz : ∀ j : Int, 0 ≤ j → j < 8 → dvL T A 0 5 8 j = 0) : (0 ≤ rsc (dvL T A 0 5 8) 12 0 → unfR T A = rsc (dvL T A 0 5 8) 12 0) ∧ (¬ 0 ≤ rsc (dvL T A 0 5 8) 12 0 → unfR T A = -5) := by
  have hs := rsc_skip (L := dvL T A 0 5 8) (k := 4) 8 0 (fun j j0 j1 => hz j j0 (by omega))
  have hs2 : rsc (dvL T A 0 5 8) 12 0 = rsc (dvL T A 0 5 8) 4 8 := hs
  rw [hs2]
  unfold unfR
  rw [hb, if_neg (by decide)]
  exact ⟨fun q => by rw [if_pos q], fun q => by rw [if_neg q]⟩
theorem fbR_n {T R : Int → Int} (h : fwt R 8 0 < 0) : fbR T R = -5 := by unfold fbR; rw [if_pos h]
theorem fbR_a {T R : Int → Int} {h : Int} (hf : ¬ fwt R 8 0 < 0) (h0 : 0 ≤ h) (hb : dvB T R (fwt R 8 0) 8 9 5 0 = h) : fbR T R = h := by unfold fbR; rw [if_neg hf, hb, if_pos h0]
theorem fbR_b {T R : Int → Int} (hf : ¬ fwt R 8 0 < 0) (hb : dvB T R (fwt R 8 0) 8 9 5 0 = -1) : (0 ≤ rsc (dvL T R (fwt R 8 0) 8 5) 12 0 → fbR T R = 10 + rsc (dvL T R (fwt R 8 0) 8 5) 12 0) ∧ (¬ 0 ≤ rsc (dvL T R (fwt R 8 0) 8 5) 12 0 → fbR T R = -6) := by
  unfold fbR
  rw [if_neg hf, hb, if_neg (by decide)]
  exact ⟨fun q => by rw [if_pos q], fun q => by rw [if_neg q]⟩
theorem up_up (f : Int → Int) (i x y : Int) : up (up f i x) i y = up f i y := by funext j; by_cases h : j = i <;> simp [up, h]
theorem up_self (f : Int → Int) (i : Int) : up f i (f i) = f := by funext j; by_cases h : j = i <;> simp [up, h]
