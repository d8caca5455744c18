/-! the reference's row of numbers, W: its parts -/
def bsA (W : Int → Int) (b : Int) : Int → Int := fun k => W (21 + 8 * b + 1 + k)
def bsK (W : Int → Int) (b : Int) : Int := W (21 + 8 * b + 6)
def bsN (W : Int → Int) (b : Int) : Int := W (21 + 8 * b + 7)
def tdW (W : Int → Int) : Int → Int := fun k => W (8 + k)
def shf (F : Int → Int) (f : Int) : Int → Int := fun k => F (f + k)
theorem shf_0 (F : Int → Int) : shf F 0 = F := by funext k; unfold shf; rw [Int.zero_add]
def jnN (W : Int → Int) (n : Nat) : Int → Int := jnw W (fun b => bsA W b) (fun b => bsK W b) (fun b => bsN W b) n
def jnW (W : Int → Int) : Int → Int := jnN W (W 20).toNat
def pkW (W : Int → Int) : Int := msr 1 (jnW W) 30
def WOk (W : Int → Int) : Prop := bdf W 8 0 20 ∧ bdf (tdW W) 12 0 999 ∧ (0 ≤ W 20 ∧ W 20 ≤ 3) ∧ (∀ b : Int, 0 ≤ b → b < 3 → bdf (bsA W b) 5 0 9 ∧ (0 ≤ W (21 + 8 * b) ∧ W (21 + 8 * b) ≤ 5) ∧ (0 ≤ bsK W b ∧ bsK W b ≤ 4) ∧ (0 ≤ bsN W b ∧ bsN W b ≤ 9) ∧ (bsK W b = 2 → 1 ≤ bsN W b)) ∧ (∀ b : Int, 0 ≤ b → b < W 20 → 0 < bsA W b 0)
theorem jnN_s {W : Int → Int} {b : Int} (hb : 0 ≤ b) (j : Int) : jnN W (b + 1).toNat j = jnN W b.toNat j + otp (bsK W b) (bsN W b) (fl W (bsA W b) 8) j := by
  have e : (b + 1).toNat = b.toNat + 1 := by omega
  have e2 : ((b.toNat : Nat) : Int) = b := Int.toNat_of_nonneg hb
  rw [e]
  show jnN W b.toNat j + otp (bsK W ((b.toNat : Nat) : Int)) (bsN W ((b.toNat : Nat) : Int)) (fl W (bsA W ((b.toNat : Nat) : Int)) 8) j = _
  rw [e2]
theorem jnW_rng {W : Int → Int} (hw : WOk W) : bdf (jnW W) 30 0 129600 := by
  obtain ⟨hR, -, hm, hb, -⟩ := hw
  have h3 := jnw_rng (R := W) (A := fun b => bsA W b) (K := fun b => bsK W b) (N := fun b => bsN W b) hR (fun b h => (hb b (by omega) (by omega)).1) (fun b h => (hb b (by omega) (by omega)).2.2.2.1.1) (W 20).toNat (by omega)
  intro j j0 j1
  have h4 := h3 j j0 j1
  unfold jnW jnN
  omega
theorem sto_0 {k n : Int} {F : Int → Int} (hk : k = 0 ∨ k = 1) : ∀ m : Nat, sto k n F m = 0 := by
  intro m
  induction m with
  | zero => rfl
  | succ m ih =>
    rw [sto, ih]
    rcases hk with rfl | rfl
    · rw [if_neg (by decide)]
      unfold ofs
      rw [if_neg (by decide), if_neg (by decide), if_neg (by decide)]; omega
    · rw [if_pos rfl]
/-- the first hour from f on in which something is left; -5 -/
def rst (L : Int → Int) (f : Int) : Int := if 0 ≤ rsc L (12 - f).toNat f then rsc L (12 - f).toNat f else -5
theorem unfR_c {T A : Int → Int} (hb : dvB T A 0 5 20 8 0 = -1) : unfR T A = rst (dvL T A 0 5 8) 8 := by
  unfold unfR rst
  rw [hb, if_neg (by decide)]; rfl
theorem tkw_in2 {L G A : Int → Int} {f t k m : Int} (hk : 0 ≤ k) (h : ∀ j : Int, 0 ≤ j → j < m → G j = tkw L f t A k j) (h0 : 0 ≤ f + k) (h1 : f + k < m) : ∀ j : Int, 0 ≤ j → j < m → up G (k + f) (G (k + f) - t * A k) j = tkw L f t A (k + 1) j := by
  rw [Int.add_comm k f]; exact tkw_in hk h h0 h1
/-- RAIN of three hours, none in the others -/
def sp8 (r : Int) : Int → Int := fun k => if k = 0 then r / 49 else if k = 1 then r / 7 % 7 else if k = 2 then r % 7 else 0
def spW (W : Int → Int) (r : Int) : Int → Int := fun j => if 0 ≤ j ∧ j < 8 then sp8 r j else W j
theorem sp8_rng {r : Int} (h0 : 0 ≤ r) (h1 : r < 343) (j : Int) : 0 ≤ sp8 r j ∧ sp8 r j ≤ 20 := by
  unfold sp8
  (repeat' split) <;> omega
theorem bsA_far {W V : Int → Int} (h : ∀ j : Int, 8 ≤ j → V j = W j) {b : Int} (hb : 0 ≤ b) : bdf (bsA W b) 5 0 9 → bdf (bsA V b) 5 0 9 := fun q j j0 j1 => by
  unfold bsA
  rw [h _ (by omega)]; exact q j j0 j1
/-- rain alone is otherwise -/
theorem WOk_far {W V : Int → Int} (hw : WOk W) (h : ∀ j : Int, 8 ≤ j → V j = W j) (hR : bdf V 8 0 20) : WOk V := by
  obtain ⟨-, hT, hm, hb, h0⟩ := hw
  refine ⟨hR, fun j j0 j1 => ?_, by rw [h 20 (by decide)]; exact hm, fun b b0 b1 => ?_, fun b b0 b1 => ?_⟩
  · unfold tdW; rw [h _ (by omega)]; exact hT j j0 j1
  · have q := hb b b0 b1
    unfold bsK bsN at q ⊢
    rw [h _ (by omega), h (21 + 8 * b + 6) (by omega), h (21 + 8 * b + 7) (by omega)]
    exact ⟨bsA_far h b0 q.1, q.2⟩
  · rw [h 20 (by decide)] at b1
    have q := h0 b b0 b1
    unfold bsA at q ⊢
    rw [h _ (by omega)]; exact q
theorem WOk_up {W : Int → Int} (hw : WOk W) {h v : Int} (h0 : 0 ≤ h) (h1 : h < 8) (v0 : 0 ≤ v) (v1 : v ≤ 20) : WOk (up W h v) :=
  WOk_far hw (fun j hj => up_ne (by omega)) (bdf_up hw.1 v0 v1)
theorem WOk_spW {W : Int → Int} (hw : WOk W) {r : Int} (h0 : 0 ≤ r) (h1 : r < 343) : WOk (spW W r) :=
  WOk_far hw (fun j hj => by unfold spW; rw [if_neg (by omega)]) (fun j j0 j1 => by unfold spW; rw [if_pos (by omega)]; exact sp8_rng h0 h1 j)
theorem WOk_swp {W : Int → Int} (hw : WOk W) {s t : Int} (s0 : 0 ≤ s) (s1 : s < 8) (t0 : 0 ≤ t) (t1 : t < 8) : WOk (swp W s t) :=
  WOk_far hw (fun j hj => by unfold swp; rw [up_ne (by omega), up_ne (by omega)]) (bdf_swp hw.1 s0 s1 t0 t1)
theorem flw_cg {R R' A A' : Int → Int} {h : Int} : ∀ n : Nat, (∀ m : Nat, m < n → R m = R' m) → (∀ k : Int, 0 ≤ k → k < 5 → A k = A' k) → flw R A h n = flw R' A' h n := by
  intro n
  induction n with
  | zero => intro _ _; rfl
  | succ n ih =>
    intro hR hA
    rw [flw, flw, ih (fun m hm => hR m (by omega)) hA, hR n (by omega)]
    by_cases c : 0 ≤ h - n ∧ h - n < 5
    · rw [if_pos c, if_pos c, hA _ c.1 c.2]
    · rw [if_neg c, if_neg c]
theorem flw_sp (W A A' : Int → Int) (r h : Int) (hA : ∀ k : Int, 0 ≤ k → k < 5 → A' k = A k) : flw (spW W r) A' h 8 = flw (spr r) A h 3 := by
  have z : ∀ n : Nat, 3 ≤ n → n < 8 → spW W r n = 0 := by
    intro n h1 h2
    unfold spW sp8
    rw [if_pos (by omega), if_neg (by omega), if_neg (by omega), if_neg (by omega)]
  have s : ∀ n : Nat, n < 3 → spW W r n = spr r n := by
    intro n h1
    unfold spW sp8 spr
    rw [if_pos (by omega)]
    (repeat' split) <;> first | rfl | omega
  have e : ∀ n : Nat, 3 ≤ n → n < 8 → flw (spW W r) A' h (n + 1) = flw (spW W r) A' h n := by
    intro n h1 h2
    rw [flw, z n h1 h2]; split <;> simp
  rw [e 7 (by decide) (by decide), e 6 (by decide) (by decide), e 5 (by decide) (by decide), e 4 (by decide) (by decide), e 3 (by decide) (by decide)]
  exact flw_cg 3 s hA
theorem nrs_sp (W : Int → Int) {r b : Int} (hb : 0 ≤ b) : sqf (fl (spW W r) (bsA (spW W r) b) 8) (tdW (spW W r)) 12 = nrs (tdW W) (bsA W b) r := by
  have e1 : ∀ k : Int, 0 ≤ k → k < 5 → bsA (spW W r) b k = bsA W b k := fun k k0 _ => by
    unfold bsA spW; rw [if_neg (by omega)]
  have q : ∀ n : Nat, sqf (fl (spW W r) (bsA (spW W r) b) 8) (tdW (spW W r)) n = sqf (fl (spr r) (bsA W b) 3) (tdW W) n := by
    intro n
    induction n with
    | zero => rfl
    | succ n ih =>
      have e2 : tdW (spW W r) n = tdW W n := by unfold tdW spW; rw [if_neg (by omega)]
      have e3 : fl (spW W r) (bsA (spW W r) b) 8 n = fl (spr r) (bsA W b) 3 n := flw_sp W (bsA W b) (bsA (spW W r) b) r n e1
      rw [sqf, sqf, ih, e2, e3]
  exact q 12
def lay (F W : Int → Int) : Int → Int := fun j => if 0 ≤ j ∧ j < 8 then F j else W j
def rwH (W : Int → Int) (f : Int) : Int → Int := fun k => W (f + 2 * k)
def rwN (W : Int → Int) (f : Int) : Int → Int := fun k => W (f + 2 * k + 1)
theorem gcdI_c (a b : Int) : gcdI a b = gcdI b a := by unfold gcdI; rw [Nat.gcd_comm]
/-- what an EVENT does to the row of numbers -/
def hapW (w n : Int) (W : Int → Int) : Int → Int := if w = 0 then up W n (min (2 * W n) 20) else if w = 1 then up W n 0 else if w = 2 then up W (21 + 8 * n + 6) 0 else fun j => if 0 ≤ j ∧ j < 8 then sft n W j else W j
/-- a BASIN comes: of c numbers N -/
def cpN (N : Int → Int) (c : Int) : Int → Int := fun k => if k < c then N k else 0
def comW (W : Int → Int) (c : Int) (N : Int → Int) : Int → Int := fun j => if j = 20 then W 20 + 1 else if j = 21 + 8 * W 20 then c else if 21 + 8 * W 20 + 1 ≤ j ∧ j < 21 + 8 * W 20 + 6 then cpN N c (j - (21 + 8 * W 20) - 1) else if j = 21 + 8 * W 20 + 6 ∨ j = 21 + 8 * W 20 + 7 then 0 else W j
theorem comW_cg {W N N' : Int → Int} {c : Int} (h : ∀ k : Int, 0 ≤ k → k < c → N k = N' k) : comW W c N = comW W c N' := by
  funext j
  unfold comW cpN
  split
  · rfl
  · split
    · rfl
    · split
      · rename_i q
        by_cases e : j - (21 + 8 * W 20) - 1 < c
        · rw [if_pos e, if_pos e]; exact h _ (by omega) e
        · rw [if_neg e, if_neg e]
      · rfl
