def BasOk (M : Mem) (q : Nat) : Prop := bdf (M (q + 1)) 5 0 9 ∧ (0 ≤ M q 1 ∧ M q 1 ≤ 5) ∧ (0 ≤ M q 2 ∧ M q 2 ≤ 4) ∧ (0 ≤ M q 3 ∧ M q 3 ≤ 9)
def SiteOk (M : Mem) (s : Nat) : Prop := bdf (M (s + 1)) 8 0 20 ∧ (0 ≤ M s 2 ∧ M s 2 ≤ 3) ∧ BasOk M (s + 3) ∧ BasOk M (s + 5) ∧ BasOk M (s + 7)
def sel3 {α : Type} (a b c : α) (n : Nat) : α := if n = 0 then a else if n = 1 then b else c
def jnS (M : Mem) (s : Nat) : Nat → Int → Int := jnw (M (s + 1)) (sel3 (M (s + 4)) (M (s + 6)) (M (s + 8))) (sel3 (M (s + 3) 2) (M (s + 5) 2) (M (s + 7) 2)) (sel3 (M (s + 3) 3) (M (s + 5) 3) (M (s + 7) 3))
theorem sel3_all {α : Type} {P : α → Prop} {a b c : α} (ha : P a) (hb : P b) (hc : P c) (n : Nat) : P (sel3 a b c n) := by
  unfold sel3
  split
  · exact ha
  · split
    · exact hb
    · exact hc
theorem jnS_rng {M : Mem} {s : Nat} (h : SiteOk M s) : bdf (jnS M s (M s 2).toNat) 30 0 129600 := by
  obtain ⟨hR, hm, ⟨a0, -, -, n0⟩, ⟨a1, -, -, n1⟩, ⟨a2, -, -, n2⟩⟩ := h
  have h3 := jnw_rng (R := M (s + 1)) (A := sel3 (M (s + 4)) (M (s + 6)) (M (s + 8))) (K := sel3 (M (s + 3) 2) (M (s + 5) 2) (M (s + 7) 2)) (N := sel3 (M (s + 3) 3) (M (s + 5) 3) (M (s + 7) 3)) hR
    (fun b _ => sel3_all (P := fun A => bdf A 5 0 9) a0 a1 a2 b)
    (fun b _ => sel3_all (P := fun x : Int => 0 ≤ x) n0.1 n1.1 n2.1 b) (M s 2).toNat (by omega)
  intro j j0 j1
  have h4 := h3 j j0 j1
  unfold jnS
  omega
/-- what an EVENT does: to RAIN, to a BASIN's cell -/
def sft (n : Int) (R : Int → Int) : Int → Int := fun h => if h < n then 0 else R (h - n)
def hapR (w n : Int) (R : Int → Int) : Int → Int := if w = 0 then up R n (min (2 * R n) 20) else if w = 1 then up R n 0 else if w = 2 then R else sft n R
def hapB (w n : Int) (i : Int) (B : Int → Int) : Int → Int := if w = 2 ∧ n = i then up B 2 0 else B
/-- digits of a number, the highest first -/
def dgn (v : Int) : Int := if v < 10 then 1 else if v < 100 then 2 else if v < 1000 then 3 else if v < 10000 then 4 else 5
def p10 (k : Int) : Int := if k = 0 then 1 else if k = 1 then 10 else if k = 2 then 100 else if k = 3 then 1000 else 10000
def dgt (v : Int) (n : Int) : Int → Int := fun k => if k < n then v / p10 (n - 1 - k) % 10 else 0
theorem fwt_t {R : Int → Int} {k : Nat} {h : Int} (c : 0 < R h) : fwt R (k + 1) h = h := by rw [fwt, if_pos c]
theorem fwt_f {R : Int → Int} {k : Nat} {h : Int} (c : ¬ 0 < R h) : fwt R (k + 1) h = fwt R k (h + 1) := by rw [fwt, if_neg c]
theorem rsc_t {R : Int → Int} {k : Nat} {h : Int} (c : ¬ R h = 0) : rsc R (k + 1) h = h := by rw [rsc, if_neg c]
theorem rsc_f {R : Int → Int} {k : Nat} {h : Int} (c : R h = 0) : rsc R (k + 1) h = rsc R k (h + 1) := by rw [rsc, if_pos c]
theorem fot_t {F S J : Int → Int} {k : Nat} {r : Int} (c : ¬ J (F r) = S r) : fot F S J (k + 1) r = r := by rw [fot, if_neg c]
theorem fot_f {F S J : Int → Int} {k : Nat} {r : Int} (c : J (F r) = S r) : fot F S J (k + 1) r = fot F S J k (r + 1) := by rw [fot, if_pos c]
theorem dvB_t {T D : Int → Int} {o n m a : Int} {k : Nat} (ha : 0 ≤ a) (c : whl (dvL T D o n a.toNat (o + a)) (D o) m) : dvB T D o n m (k + 1) a.toNat = dvB T D o n m k (a + 1).toNat := by rw [dvB_s ha, if_pos c]
theorem dvB_f {T D : Int → Int} {o n m a : Int} {k : Nat} (ha : 0 ≤ a) (c : ¬ whl (dvL T D o n a.toNat (o + a)) (D o) m) : dvB T D o n m (k + 1) a.toNat = a := by rw [dvB_s ha, if_neg c]
theorem nat_s {a b : Int} (h : b < a) : (a - b).toNat = (a - (b + 1)).toNat + 1 := by omega
theorem unfR_a {T A : Int → Int} {h : Int} (h0 : 0 ≤ h) (hb : dvB T A 0 5 20 8 0 = h) : unfR T A = h := by unfold unfR; rw [hb, if_pos h0]
theorem unfR_b {T A : Int → Int} (hb : dvB T A 0 5 20 8 0 = -1) (hz : ∀ j : Int, 0 ≤ j → j < 8 → dvL T A 0 5 8 j = 0) : (0 ≤ rsc (dvL T A 0 5 8) 12 0 → unfR T A = rsc (dvL T A 0 5 8) 12 0) ∧ (¬ 0 ≤ rsc (dvL T A 0 5 8) 12 0 → unfR T A = -5) := by
  have hs := rsc_skip (L := dvL T A 0 5 8) (k := 4) 8 0 (fun j j0 j1 => hz j j0 (by omega))
  have hs2 : rsc (dvL T A 0 5 8) 12 0 = rsc (dvL T A 0 5 8) 4 8 := hs
  rw [hs2]
  unfold unfR
  rw [hb, if_neg (by decide)]
  exact ⟨fun q => by rw [if_pos q], fun q => by rw [if_neg q]⟩
theorem fbR_n {T R : Int → Int} (h : fwt R 8 0 < 0) : fbR T R = -5 := by unfold fbR; rw [if_pos h]
theorem fbR_a {T R : Int → Int} {h : Int} (hf : ¬ fwt R 8 0 < 0) (h0 : 0 ≤ h) (hb : dvB T R (fwt R 8 0) 8 9 5 0 = h) : fbR T R = h := by unfold fbR; rw [if_neg hf, hb, if_pos h0]
theorem fbR_b {T R : Int → Int} (hf : ¬ fwt R 8 0 < 0) (hb : dvB T R (fwt R 8 0) 8 9 5 0 = -1) : (0 ≤ rsc (dvL T R (fwt R 8 0) 8 5) 12 0 → fbR T R = 10 + rsc (dvL T R (fwt R 8 0) 8 5) 12 0) ∧ (¬ 0 ≤ rsc (dvL T R (fwt R 8 0) 8 5) 12 0 → fbR T R = -6) := by
  unfold fbR
  rw [if_neg hf, hb, if_neg (by decide)]
  exact ⟨fun q => by rw [if_pos q], fun q => by rw [if_neg q]⟩
theorem up_up (f : Int → Int) (i x y : Int) : up (up f i x) i y = up f i y := by funext j; by_cases h : j = i <;> simp [up, h]
theorem up_self (f : Int → Int) (i : Int) : up f i (f i) = f := by funext j; by_cases h : j = i <;> simp [up, h]
/-- the cell of BASIN b of now's -/
def basQ (b : Int) : Nat := 5 + 2 * b.toNat
/-- JOINED of now's BASINS, by rain R -/
def jnR (M : Mem) (R : Int → Int) : Int → Int := jnw R (sel3 (M 6) (M 8) (M 10)) (sel3 (M 5 2) (M 7 2) (M 9 2)) (sel3 (M 5 3) (M 7 3) (M 9 3)) (M 2 2).toNat
def RowOk (M : Mem) (r : Nat) : Prop := (0 ≤ M r 3 ∧ M r 3 ≤ M r 2 ∧ M r 2 ≤ 8) ∧ bdf (M (r + 1)) (M r 3) 0 29 ∧ bdf (M (r + 2)) (M r 3) 0 9999
def swp (R : Int → Int) (s t : Int) : Int → Int := up (up R s (R t)) t (R s)
def nrw (s v : Int) : Int := if s = 0 then Int.bmod v 256 else if s = 1 then Int.bmod v 65536 else if s = 2 then Int.bmod v 4294967296 else if s = 4 then (if v = 0 then 0 else 1) else v
def gcdI (a b : Int) : Int := (Nat.gcd a.toNat b.toNat : Nat)
theorem gcdI_s {g l : Int} (hg : 0 ≤ g) (hl : 0 < l) : gcdI l (g % l) = gcdI g l := by
  unfold gcdI
  have e : (g % l).toNat = g.toNat % l.toNat := Int.toNat_emod hg (Int.le_of_lt hl)
  rw [e, Nat.gcd_comm l.toNat, ← Nat.gcd_rec, Nat.gcd_comm]
theorem gcdI_0 {g : Int} (hg : 0 ≤ g) : gcdI g 0 = g := by
  unfold gcdI
  rw [show (0 : Int).toNat = 0 from rfl, Nat.gcd_zero_right]; omega
theorem iI_wrap (a : Int) : iI a = iI (Int.bmod a 4294967296) := by
  have h : (iI a).toInt = Int.bmod a 4294967296 := by unfold iI; rw [Int32.toInt_ofInt]
  rw [← h]; exact iI_of _
theorem v_l2iw {z : Fz} {g : Gl} {cc : ByteArray} {nL : Nat} {own : String} {Ts : List Cond} {fr lo : Nat} {M : Mem} {ls : List (Nat × Value)} {st : List Value} {pc : Nat} (ok : Ok z g cc nL own Ts fr lo) {a : Int} (hdg : decode cc pc = .ok (.l2i, 1)) (kk : V z g nL M ls (iv (Int.bmod a 4294967296) :: st) (pc + 1)) : V z g nL M ls (jv a :: st) pc := by
  refine v_l2i ok hdg ?_
  show V z g nL M ls (.int (iI a) :: st) (pc + 1)
  rw [iI_wrap a]
  exact kk
/-- the cell of a TAPE -/
def tpQ (t : Int) : Nat := 66 + 2 * t.toNat
theorem dvB_all {T D : Int → Int} {o n m : Int} : ∀ (k a : Nat), dvB T D o n m k a = -1 → ∀ j : Nat, a ≤ j → j < a + k → whl (dvL T D o n j (o + j)) (D o) m := by
  intro k
  induction k with
  | zero => intro a _ j h1 h2; omega
  | succ k ih =>
    intro a h j h1 h2
    rw [dvB] at h
    by_cases c : whl (dvL T D o n a (o + a)) (D o) m
    · rw [if_pos c] at h
      by_cases e : j = a
      · subst e; exact c
      · exact ih (a + 1) h j (by omega) (by omega)
    · rw [if_neg c] at h; omega
theorem dvQ_rng {T D : Int → Int} {o n m : Int} {k : Nat} (h : dvB T D o n m k 0 = -1) (j : Int) (j0 : 0 ≤ j) (j1 : j < k) : 0 ≤ dvQ T D o n j ∧ dvQ T D o n j ≤ m := by
  have h1 := dvB_all k 0 h j.toNat (Nat.zero_le _) (by omega)
  unfold dvQ
  rw [Int.toNat_of_nonneg j0] at h1
  exact ⟨Int.ediv_nonneg h1.2.1 (by have := h1.1; omega), h1.2.2.2⟩
theorem unfR_no {T A : Int → Int} (h : unfR T A = -5) : dvB T A 0 5 20 8 0 = -1 := by
  have h1 := dvB_rng (T := T) (D := A) (o := 0) (n := 5) (m := 20) 8 0
  unfold unfR at h
  split at h <;> omega
theorem fbR_no {T R : Int → Int} (h : fbR T R = -6) : dvB T R (fwt R 8 0) 8 9 5 0 = -1 ∧ 0 ≤ fwt R 8 0 := by
  have h1 := dvB_rng (T := T) (D := R) (o := fwt R 8 0) (n := 8) (m := 9) 5 0
  have h2 := rsc_rng (L := dvL T R (fwt R 8 0) 8 5) 12 0 (by omega)
  have h3 := fwt_rng (R := R) 8 0 (by omega)
  unfold fbR at h
  split at h
  · omega
  · split at h
    · omega
    · split at h <;> omega
theorem unfR_rng (T A : Int → Int) : -5 ≤ unfR T A ∧ unfR T A < 12 := by
  have h1 := dvB_rng (T := T) (D := A) (o := 0) (n := 5) (m := 20) 8 0
  have h2 := rsc_rng (L := dvL T A 0 5 8) 4 8 (by omega)
  unfold unfR
  split
  · omega
  · split <;> omega
theorem fbR_rng (T R : Int → Int) : -6 ≤ fbR T R ∧ fbR T R < 22 := by
  have h1 := dvB_rng (T := T) (D := R) (o := fwt R 8 0) (n := 8) (m := 9) 5 0
  have h2 := rsc_rng (L := dvL T R (fwt R 8 0) 8 5) 12 0 (by omega)
  unfold fbR
  split
  · omega
  · split
    · omega
    · split <;> omega
