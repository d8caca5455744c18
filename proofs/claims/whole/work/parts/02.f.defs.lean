def BasOk (M : Mem) (q : Nat) : Prop := bdf (M (q + 1)) 5 0 9 ∧ (0 ≤ M q 1 ∧ M q 1 ≤ 5) ∧ (0 ≤ M q 2 ∧ M q 2 ≤ 4) ∧ (0 ≤ M q 3 ∧ M q 3 ≤ 9)
def SiteOk (M : Mem) (s : Nat) : Prop := bdf (M (s + 1)) 8 0 20 ∧ (0 ≤ M s 2 ∧ M s 2 ≤ 3) ∧ BasOk M (s + 3) ∧ BasOk M (s + 5) ∧ BasOk M (s + 7)
def sel3 {α : Type} (a b c : α) (n : Nat) : α := if n = 0 then a else if n = 1 then b else c
def jnS (M : Mem) (s : Nat) : Nat → Int → Int := jnw (M (s + 1)) (sel3 (M (s + 4)) (M (s + 6)) (M (s + 8))) (sel3 (M (s + 3) 2) (M (s + 5) 2) (M (s + 7) 2)) (sel3 (M (s + 3) 3) (M (s + 5) 3) (M (s + 7) 3))
theorem sel3_all {α : Type} {P : α → Prop} {a b c : α} (ha : P a) (hb : P b) (hc : P c) (n : Nat) : P (sel3 a b c n) := by
  unfold sel3
  split
  · exact ha
  · split
    · exact hb
    · exact hc
theorem jnS_rng {M : Mem} {s : Nat} (h : SiteOk M s) : bdf (jnS M s (M s 2).toNat) 30 0 129600 := by
  obtain ⟨hR, hm, ⟨a0, -, -, n0⟩, ⟨a1, -, -, n1⟩, ⟨a2, -, -, n2⟩⟩ := h
  have h3 := jnw_rng (R := M (s + 1)) (A := sel3 (M (s + 4)) (M (s + 6)) (M (s + 8))) (K := sel3 (M (s + 3) 2) (M (s + 5) 2) (M (s + 7) 2)) (N := sel3 (M (s + 3) 3) (M (s + 5) 3) (M (s + 7) 3)) hR
    (fun b _ => sel3_all (P := fun A => bdf A 5 0 9) a0 a1 a2 b)
    (fun b _ => sel3_all (P := fun x : Int => 0 ≤ x) n0.1 n1.1 n2.1 b) (M s 2).toNat (by omega)
  intro j j0 j1
  have h4 := h3 j j0 j1
  unfold jnS
  omega
/-- what an EVENT does: to RAIN, to a BASIN's cell -/
def sft (n : Int) (R : Int → Int) : Int → Int := fun h => if h < n then 0 else R (h - n)
def hapR (w n : Int) (R : Int → Int) : Int → Int := if w = 0 then up R n (min (2 * R n) 20) else if w = 1 then up R n 0 else if w = 2 then R else sft n R
def hapB (w n : Int) (i : Int) (B : Int → Int) : Int → Int := if w = 2 ∧ n = i then up B 2 0 else B
/-- digits of a number, the highest first -/
def dgn (v : Int) : Int := if v < 10 then 1 else if v < 100 then 2 else if v < 1000 then 3 else if v < 10000 then 4 else 5
def p10 (k : Int) : Int := if k = 0 then 1 else if k = 1 then 10 else if k = 2 then 100 else if k = 3 then 1000 else 10000
def dgt (v : Int) (n : Int) : Int → Int := fun k => if k < n then v / p10 (n - 1 - k) % 10 else 0
theorem fwt_t {R : Int → Int} {k : Nat} {h : Int} (c : 0 < R h) : fwt R (k + 1) h = h := by rw [fwt, if_pos c]
theorem fwt_f {R : Int → Int} {k : Nat} {h : Int} (c : ¬ 0 < R h) : fwt R (k + 1) h = fwt R k (h + 1) := by rw [fwt, if_neg c]
theorem rsc_t {R : Int → Int} {k : Nat} {h : Int} (c : ¬ R h = 0) : rsc R (k + 1) h = h := by rw [rsc, if_neg c]
theorem rsc_f {R : Int → Int} {k : Nat} {h : Int} (c : R h = 0) : rsc R (k + 1) h = rsc R k (h + 1) := by rw [rsc, if_pos c]
theorem fot_t {F S J : Int → Int} {k : Nat} {r : Int} (c : ¬ J (F r) = S r) : fot F S J (k + 1) r = r := by rw [fot, if_neg c]
theorem fot_f {F S J : Int → Int} {k : Nat} {r : Int} (c : J (F r) = S r) : fot F S J (k + 1) r = fot F S J k (r + 1) := by rw [fot, if_pos c]
theorem dvB_t {T D : Int → Int} {o n m a : Int} {k : Nat} (ha : 0 ≤ a) (c : whl (dvL T D o n a.toNat (o + a)) (D o) m) : dvB T D o n m (k + 1) a.toNat = dvB T D o n m k (a + 1).toNat := by rw [dvB_s ha, if_pos c]
theorem dvB_f {T D : Int → Int} {o n m a : Int} {k : Nat} (ha : 0 ≤ a) (c : ¬ whl (dvL T D o n a.toNat (o + a)) (D o) m) : dvB T D o n m (k + 1) a.toNat = a := by rw [dvB_s ha, if_neg c]
theorem nat_s {a b : Int} (h : b < a) : (a - b).toNat = (a - (b + 1)).toNat + 1 := by omega
theorem unfR_a {T A : Int → Int} {h : Int} (h0 : 0 ≤ h) (hb : dvB T A 0 5 20 8 0 = h) : unfR T A = h := by unfold unfR; rw [hb, if_pos h0]
theorem unfR_b {T A : Int → Int} (hb : dvB T A 0 5 20 8 0 = -1) (hz : ∀ j : Int, 0 ≤ j → j < 8 → dvL T A 0 5 8 j = 0) : (0 ≤ rsc (dvL T A 0 5 8) 12 0 → unfR T A = rsc (dvL T A 0 5 8) 12 0) ∧ (¬ 0 ≤ rsc (dvL T A 0 5 8) 12 0 → unfR T A = -5) := by
  have hs := rsc_skip (L := dvL T A 0 5 8) (k := 4) 8 0 (fun j j0 j1 => hz j j0 (by omega))
  have hs2 : rsc (dvL T A 0 5 8) 12 0 = rsc (dvL T A 0 5 8) 4 8 := hs
  rw [hs2]
  unfold unfR
  rw [hb, if_neg (by decide)]
  exact ⟨fun q => by rw [if_pos q], fun q => by rw [if_neg q]⟩
theorem fbR_n {T R : Int → Int} (h : fwt R 8 0 < 0) : fbR T R = -5 := by unfold fbR; rw [if_pos h]
theorem fbR_a {T R : Int → Int} {h : Int} (hf : ¬ fwt R 8 0 < 0) (h0 : 0 ≤ h) (hb : dvB T R (fwt R 8 0) 8 9 5 0 = h) : fbR T R = h := by unfold fbR; rw [if_neg hf, hb, if_pos h0]
theorem fbR_b {T R : Int → Int} (hf : ¬ fwt R 8 0 < 0) (hb : dvB T R (fwt R 8 0) 8 9 5 0 = -1) : (0 ≤ rsc (dvL T R (fwt R 8 0) 8 5) 12 0 → fbR T R = 10 + rsc (dvL T R (fwt R 8 0) 8 5) 12 0) ∧ (¬ 0 ≤ rsc (dvL T R (fwt R 8 0) 8 5) 12 0 → fbR T R = -6) := by
  unfold fbR
  rw [if_neg hf, hb, if_neg (by decide)]
  exact ⟨fun q => by rw [if_pos q], fun q => by rw [if_neg q]⟩
theorem up_up (f : Int → Int) (i x y : Int) : up (up f i x) i y = up f i y := by funext j; by_cases h : j = i <;> simp [up, h]
theorem up_self (f : Int → Int) (i : Int) : up f i (f i) = f := by funext j; by_cases h : j = i <;> simp [up, h]
/-- the cell of BASIN b of now's -/
def basQ (b : Int) : Nat := 5 + 2 * b.toNat
/-- JOINED of now's BASINS, by rain R -/
def jnR (M : Mem) (R : Int → Int) : Int → Int := jnw R (sel3 (M 6) (M 8) (M 10)) (sel3 (M 5 2) (M 7 2) (M 9 2)) (sel3 (M 5 3) (M 7 3) (M 9 3)) (M 2 2).toNat
def RowOk (M : Mem) (r : Nat) : Prop := (0 ≤ M r 3 ∧ M r 3 ≤ M r 2 ∧ M r 2 ≤ 8) ∧ bdf (M (r + 1)) (M r 3) 0 29 ∧ bdf (M (r + 2)) (M r 3) 0 9999
def swp (R : Int → Int) (s t : Int) : Int → Int := up (up R s (R t)) t (R s)
def nrw (s v : Int) : Int := if s = 0 then Int.bmod v 256 else if s = 1 then Int.bmod v 65536 else if s = 2 then Int.bmod v 4294967296 else if s = 4 then (if v = 0 then 0 else 1) else v
def gcdI (a b : Int) : Int := (Nat.gcd a.toNat b.toNat : Nat)
theorem gcdI_s {g l : Int} (hg : 0 ≤ g) (hl : 0 < l) : gcdI l (g % l) = gcdI g l := by
  unfold gcdI
  have e : (g % l).toNat = g.toNat % l.toNat := Int.toNat_emod hg (Int.le_of_lt hl)
  rw [e, Nat.gcd_comm l.toNat, ← Nat.gcd_rec, Nat.gcd_comm]
theorem gcdI_0 {g : Int} (hg : 0 ≤ g) : gcdI g 0 = g := by
  unfold gcdI
  rw [show (0 : Int).toNat = 0 from rfl, Nat.gcd_zero_right]; omega
theorem iI_wrap (a : Int) : iI a = iI (Int.bmod a 4294967296) := by
  have h : (iI a).toInt = Int.bmod a 4294967296 := by unfold iI; rw [Int32.toInt_ofInt]
  rw [← h]; exact iI_of _
theorem v_l2iw {z : Fz} {g : Gl} {cc : ByteArray} {nL : Nat} {own : String} {Ts : List Cond} {fr lo : Nat} {M : Mem} {ls : List (Nat × Value)} {st : List Value} {pc : Nat} (ok : Ok z g cc nL own Ts fr lo) {a : Int} (hdg : decode cc pc = .ok (.l2i, 1)) (kk : V z g nL M ls (iv (Int.bmod a 4294967296) :: st) (pc + 1)) : V z g nL M ls (jv a :: st) pc := by
  refine v_l2i ok hdg ?_
  show V z g nL M ls (.int (iI a) :: st) (pc + 1)
  rw [iI_wrap a]
  exact kk
/-- the cell of a TAPE -/
def tpQ (t : Int) : Nat := 66 + 2 * t.toNat
theorem dvB_all {T D : Int → Int} {o n m : Int} : ∀ (k a : Nat), dvB T D o n m k a = -1 → ∀ j : Nat, a ≤ j → j < a + k → whl (dvL T D o n j (o + j)) (D o) m := by
  intro k
  induction k with
  | zero => intro a _ j h1 h2; omega
  | succ k ih =>
    intro a h j h1 h2
    rw [dvB] at h
    by_cases c : whl (dvL T D o n a (o + a)) (D o) m
    · rw [if_pos c] at h
      by_cases e : j = a
      · subst e; exact c
      · exact ih (a + 1) h j (by omega) (by omega)
    · rw [if_neg c] at h; omega
theorem dvQ_rng {T D : Int → Int} {o n m : Int} {k : Nat} (h : dvB T D o n m k 0 = -1) (j : Int) (j0 : 0 ≤ j) (j1 : j < k) : 0 ≤ dvQ T D o n j ∧ dvQ T D o n j ≤ m := by
  have h1 := dvB_all k 0 h j.toNat (Nat.zero_le _) (by omega)
  unfold dvQ
  rw [Int.toNat_of_nonneg j0] at h1
  exact ⟨Int.ediv_nonneg h1.2.1 (by have := h1.1; omega), h1.2.2.2⟩
theorem unfR_no {T A : Int → Int} (h : unfR T A = -5) : dvB T A 0 5 20 8 0 = -1 := by
  have h1 := dvB_rng (T := T) (D := A) (o := 0) (n := 5) (m := 20) 8 0
  unfold unfR at h
  split at h <;> omega
theorem fbR_no {T R : Int → Int} (h : fbR T R = -6) : dvB T R (fwt R 8 0) 8 9 5 0 = -1 ∧ 0 ≤ fwt R 8 0 := by
  have h1 := dvB_rng (T := T) (D := R) (o := fwt R 8 0) (n := 8) (m := 9) 5 0
  have h2 := rsc_rng (L := dvL T R (fwt R 8 0) 8 5) 12 0 (by omega)
  have h3 := fwt_rng (R := R) 8 0 (by omega)
  unfold fbR at h
  split at h
  · omega
  · split at h
    · omega
    · split at h <;> omega
theorem unfR_rng (T A : Int → Int) : -5 ≤ unfR T A ∧ unfR T A < 12 := by
  have h1 := dvB_rng (T := T) (D := A) (o := 0) (n := 5) (m := 20) 8 0
  have h2 := rsc_rng (L := dvL T A 0 5 8) 4 8 (by omega)
  unfold unfR
  split
  · omega
  · split <;> omega
theorem fbR_rng (T R : Int → Int) : -6 ≤ fbR T R ∧ fbR T R < 22 := by
  have h1 := dvB_rng (T := T) (D := R) (o := fwt R 8 0) (n := 8) (m := 9) 5 0
  have h2 := rsc_rng (L := dvL T R (fwt R 8 0) 8 5) 12 0 (by omega)
  unfold fbR
  split
  · omega
  · split
    · omega
    · split <;> omega
theorem bas_ok {M : Mem} {b : Int} (hs : SiteOk M 2) (h0 : 0 ≤ b) (h1 : b < 3) : BasOk M (basQ b) := by
  rcases (show b = 0 ∨ b = 1 ∨ b = 2 by omega) with rfl | rfl | rfl
  · exact hs.2.2.1
  · exact hs.2.2.2.1
  · exact hs.2.2.2.2
def cntp (J : Int → Int) : Nat → Int
  | 0 => 0
  | n + 1 => cntp J n + (if 0 < J n then 1 else 0)
theorem cntp_s {J : Int → Int} {h : Int} (hh : 0 ≤ h) : cntp J (h + 1).toNat = cntp J h.toNat + (if 0 < J h then 1 else 0) := by
  have e : (h + 1).toNat = h.toNat + 1 := by omega
  have e2 : ((h.toNat : Nat) : Int) = h := Int.toNat_of_nonneg hh
  rw [e, cntp, e2]
theorem cntp_rng (J : Int → Int) : ∀ n : Nat, 0 ≤ cntp J n ∧ cntp J n ≤ n := by
  intro n
  induction n with
  | zero => exact ⟨by simp [cntp], by simp [cntp]⟩
  | succ n ih => rw [cntp]; split <;> omega
def pkR (M : Mem) (R : Int → Int) : Int := msr 1 (jnR M R) 30
theorem bdf_up {R : Int → Int} {n lo hi h v : Int} (hR : bdf R n lo hi) (h0 : lo ≤ v) (h1 : v ≤ hi) : bdf (up R h v) n lo hi := by
  intro j j0 j1
  by_cases e : j = h
  · rw [e, up_same]; exact ⟨h0, h1⟩
  · rw [up_ne e]; exact hR j j0 j1
theorem bdf_swp {R : Int → Int} {n lo hi s t : Int} (hR : bdf R n lo hi) (s0 : 0 ≤ s) (s1 : s < n) (t0 : 0 ≤ t) (t1 : t < n) : bdf (swp R s t) n lo hi :=
  bdf_up (bdf_up hR (hR t t0 t1).1 (hR t t0 t1).2) (hR s s0 s1).1 (hR s s0 s1).2
theorem swp_swp {R : Int → Int} {s t : Int} (h : s ≠ t) : swp (swp R s t) s t = R := by
  funext j
  unfold swp
  by_cases e1 : j = t
  · subst e1; rw [up_same, up_ne h, up_same]
  · rw [up_ne e1]
    by_cases e2 : j = s
    · subst e2; rw [up_same, up_same]
    · rw [up_ne e2, up_ne e1, up_ne e2]
theorem jnR_rng {M : Mem} {R : Int → Int} (hs : SiteOk M 2) (hR : bdf R 8 0 20) : bdf (jnR M R) 30 0 129600 := by
  obtain ⟨-, hm, ⟨a0, -, -, n0⟩, ⟨a1, -, -, n1⟩, ⟨a2, -, -, n2⟩⟩ := hs
  have h3 := jnw_rng (R := R) (A := sel3 (M 6) (M 8) (M 10)) (K := sel3 (M 5 2) (M 7 2) (M 9 2)) (N := sel3 (M 5 3) (M 7 3) (M 9 3)) hR
    (fun b _ => sel3_all (P := fun A => bdf A 5 0 9) a0 a1 a2 b)
    (fun b _ => sel3_all (P := fun x : Int => 0 ≤ x) n0.1 n1.1 n2.1 b) (M 2 2).toNat (by omega)
  intro j j0 j1
  have h4 := h3 j j0 j1
  unfold jnR
  omega
theorem pkR_rng {M : Mem} {R : Int → Int} (hs : SiteOk M 2) (hR : bdf R 8 0 20) : 0 ≤ pkR M R ∧ pkR M R ≤ 129600 := by
  have h1 := bst_rng (jnR M R) 30
  exact jnR_rng hs hR _ h1.1 (by omega)
def oda (f : Int → Int) (l : Int) : Nat → Int
  | 0 => 0
  | n + 1 => oda f l n + (if l < f n then 1 else 0)
theorem oda_s {f : Int → Int} {l h : Int} (hh : 0 ≤ h) : oda f l (h + 1).toNat = oda f l h.toNat + (if l < f h then 1 else 0) := by
  have e : (h + 1).toNat = h.toNat + 1 := by omega
  have e2 : ((h.toNat : Nat) : Int) = h := Int.toNat_of_nonneg hh
  rw [e, oda, e2]
theorem oda_rng (f : Int → Int) (l : Int) : ∀ n : Nat, 0 ≤ oda f l n ∧ oda f l n ≤ n := by
  intro n
  induction n with
  | zero => exact ⟨by simp [oda], by simp [oda]⟩
  | succ n ih => rw [oda]; split <;> omega
/-- FITS: of f, tried from 20 down, how often it is -5; the last such -/
def ftN (f : Int → Int) : Nat → Int
  | 0 => 0
  | k + 1 => ftN f k + (if f (20 - k) = -5 then 1 else 0)
def ftL (f : Int → Int) : Nat → Int
  | 0 => -5
  | k + 1 => if f (20 - k) = -5 then 20 - k else ftL f k
theorem ftN_s {f : Int → Int} {v : Int} (hv : v ≤ 20) : ftN f (20 - (v - 1)).toNat = ftN f (20 - v).toNat + (if f v = -5 then 1 else 0) := by
  have e : (20 - (v - 1)).toNat = (20 - v).toNat + 1 := by omega
  have e2 : 20 - (((20 - v).toNat : Nat) : Int) = v := by omega
  rw [e, ftN, e2]
theorem ftL_s {f : Int → Int} {v : Int} (hv : v ≤ 20) : ftL f (20 - (v - 1)).toNat = if f v = -5 then v else ftL f (20 - v).toNat := by
  have e : (20 - (v - 1)).toNat = (20 - v).toNat + 1 := by omega
  have e2 : 20 - (((20 - v).toNat : Nat) : Int) = v := by omega
  rw [e, ftL, e2]
theorem ftN_rng (f : Int → Int) : ∀ n : Nat, 0 ≤ ftN f n ∧ ftN f n ≤ n := by
  intro n
  induction n with
  | zero => exact ⟨by simp [ftN], by simp [ftN]⟩
  | succ n ih => rw [ftN]; split <;> omega
def fitF (M : Mem) (h v : Int) : Int := fot (M 13) (M 14) (jnR M (up (M 3) h v)) (M 12 3).toNat 0
/-- EXCHANGED: the least, and which -/
def stp (P : Int → Int → Int) (a : Int × Int) (s t : Int) : Int × Int := if P s t < a.1 then (P s t, 10 * s + t) else a
def exI (P : Int → Int → Int) (s : Int) (a : Int × Int) : Nat → Int × Int
  | 0 => a
  | n + 1 => stp P (exI P s a n) s (s + 1 + n)
def exO (P : Int → Int → Int) (p0 : Int) : Nat → Int × Int
  | 0 => (p0, -5)
  | s + 1 => exI P s (exO P p0 s) (7 - s)
theorem exI_s {P : Int → Int → Int} {s t : Int} {a : Int × Int} (h : s + 1 ≤ t) : exI P s a (t + 1 - s - 1).toNat = stp P (exI P s a (t - s - 1).toNat) s t := by
  have e : (t + 1 - s - 1).toNat = (t - s - 1).toNat + 1 := by omega
  have e2 : s + 1 + (((t - s - 1).toNat : Nat) : Int) = t := by omega
  rw [e, exI, e2]
theorem exO_s {P : Int → Int → Int} {p0 s : Int} (h : 0 ≤ s) (h7 : s ≤ 7) : exO P p0 (s + 1).toNat = exI P s (exO P p0 s.toNat) (8 - s - 1).toNat := by
  have e : (s + 1).toNat = s.toNat + 1 := by omega
  have e2 : ((s.toNat : Nat) : Int) = s := Int.toNat_of_nonneg h
  rw [e, exO, e2, show 7 - s.toNat = (8 - s - 1).toNat by omega]
/-- RAIN, a RESERVOIR's KIND behind the first r EVENTS -/
def hpR (W N R : Int → Int) : Nat → Int → Int
  | 0 => R
  | r + 1 => hapR (W r) (N r) (hpR W N R r)
def hpB (W N : Int → Int) (i : Int) (B : Int → Int) : Nat → Int → Int
  | 0 => B
  | r + 1 => hapB (W r) (N r) i (hpB W N i B r)
def hpK (W N : Int → Int) (i k : Int) : Nat → Int
  | 0 => k
  | r + 1 => if W r = 2 ∧ N r = i then 0 else hpK W N i k r
theorem hpR_s {W N R : Int → Int} {r : Int} (h : 0 ≤ r) : hpR W N R (r + 1).toNat = hapR (W r) (N r) (hpR W N R r.toNat) := by
  have e : (r + 1).toNat = r.toNat + 1 := by omega
  have e2 : ((r.toNat : Nat) : Int) = r := Int.toNat_of_nonneg h
  rw [e, hpR, e2]
theorem hpB_s {W N B : Int → Int} {i r : Int} (h : 0 ≤ r) : hpB W N i B (r + 1).toNat = hapB (W r) (N r) i (hpB W N i B r.toNat) := by
  have e : (r + 1).toNat = r.toNat + 1 := by omega
  have e2 : ((r.toNat : Nat) : Int) = r := Int.toNat_of_nonneg h
  rw [e, hpB, e2]
theorem hpB_2 {W N B : Int → Int} {i : Int} : ∀ r : Nat, hpB W N i B r 2 = hpK W N i (B 2) r ∧ hpB W N i B r 1 = B 1 ∧ hpB W N i B r 3 = B 3 := by
  intro r
  induction r with
  | zero => exact ⟨rfl, rfl, rfl⟩
  | succ r ih =>
    obtain ⟨h1, h2, h3⟩ := ih
    rw [hpB, hpK]
    unfold hapB
    split
    · exact ⟨up_same _ _ _, by rw [up_ne (by decide), h2], by rw [up_ne (by decide), h3]⟩
    · exact ⟨h1, h2, h3⟩
theorem hpK_rng {W N : Int → Int} {i k : Int} (hk : 0 ≤ k ∧ k ≤ 4) : ∀ r : Nat, 0 ≤ hpK W N i k r ∧ hpK W N i k r ≤ 4 := by
  intro r
  induction r with
  | zero => exact hk
  | succ r ih => rw [hpK]; split <;> omega
theorem hapR_rng {w n : Int} {R : Int → Int} (hn : 0 ≤ n) (hn7 : n ≤ 7) (hR : bdf R 8 0 20) : bdf (hapR w n R) 8 0 20 := by
  unfold hapR
  have h1 := hR n hn (by omega)
  split
  · exact bdf_up hR (by omega) (by omega)
  · split
    · exact bdf_up hR (by omega) (by omega)
    · split
      · exact hR
      · intro j j0 j1
        unfold sft
        split
        · omega
        · exact hR (j - n) (by omega) (by omega)
def EvOk (M : Mem) : Prop := (0 ≤ M 15 3 ∧ M 15 3 ≤ 8) ∧ ∀ r : Int, 0 ≤ r → r < M 15 3 → (0 ≤ M 16 r ∧ M 16 r ≤ 3) ∧ (0 ≤ M 17 r ∧ M 17 r ≤ 7) ∧ (M 16 r = 2 → M 17 r < M 2 2)
/-- JOINED of now's BASINS by other rain and kinds -/
def jnK (M : Mem) (R : Int → Int) (k0 k1 k2 : Int) : Int → Int := jnw R (sel3 (M 6) (M 8) (M 10)) (sel3 k0 k1 k2) (sel3 (M 5 3) (M 7 3) (M 9 3)) (M 2 2).toNat
/-- JUDGED: from hour h on, k hours left -/
def jdF (it ou : Int → Int) (i n : Int) : Nat → Int → Int
  | 0, _ => -5
  | k + 1, h => if 0 ≤ i ∧ i + h < n then (if it (i + h) = ou h then jdF it ou i n k (h + 1) else h) else 100 + h
theorem jdF_a {it ou : Int → Int} {i n h : Int} {k : Nat} (c : ¬ (0 ≤ i ∧ i + h < n)) : jdF it ou i n (k + 1) h = 100 + h := by rw [jdF, if_neg c]
theorem jdF_b {it ou : Int → Int} {i n h : Int} {k : Nat} (c : 0 ≤ i ∧ i + h < n) (e : ¬ it (i + h) = ou h) : jdF it ou i n (k + 1) h = h := by rw [jdF, if_pos c, if_neg e]
theorem jdF_c {it ou : Int → Int} {i n h : Int} {k : Nat} (c : 0 ≤ i ∧ i + h < n) (e : it (i + h) = ou h) : jdF it ou i n (k + 1) h = jdF it ou i n k (h + 1) := by rw [jdF, if_pos c, if_pos e]
def TpsOk (M : Mem) : Prop := ∀ q : Nat, kd q = 8 → (-1 ≤ M q 1 ∧ M q 1 ≤ 4) ∧ (0 ≤ M q 2 ∧ M q 2 ≤ 60) ∧ ∀ k : Int, 0 ≤ k → k < 60 → i64 (M (q + 1) k)
theorem jnS_eq {M' M : Mem} {R : Int → Int} {k0 k1 k2 : Int} (h42 : M' 42 = R) (h45 : M' 45 = M 6) (h47 : M' 47 = M 8) (h49 : M' 49 = M 10) (e0 : M' 44 2 = k0) (e1 : M' 46 2 = k1) (e2 : M' 48 2 = k2) (n0 : M' 44 3 = M 5 3) (n1 : M' 46 3 = M 7 3) (n2 : M' 48 3 = M 9 3) (hm : M' 41 2 = M 2 2) : jnS M' 41 (M' 41 2).toNat = jnK M R k0 k1 k2 := by
  show jnw (M' 42) (sel3 (M' 45) (M' 47) (M' 49)) (sel3 (M' 44 2) (M' 46 2) (M' 48 2)) (sel3 (M' 44 3) (M' 46 3) (M' 48 3)) (M' 41 2).toNat = jnw R (sel3 (M 6) (M 8) (M 10)) (sel3 k0 k1 k2) (sel3 (M 5 3) (M 7 3) (M 9 3)) (M 2 2).toNat
  rw [h42, h45, h47, h49, e0, e1, e2, n0, n1, n2, hm]
