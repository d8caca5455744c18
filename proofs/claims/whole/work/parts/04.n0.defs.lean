/-! CLAUSES: what they do -/
/-- how many of the first k are above b -/
def cab (V : Int → Int) (b : Int) : Nat → Int
  | 0 => 0
  | k + 1 => cab V b k + (if V k ≤ b then 0 else 1)
theorem cab_rng (V : Int → Int) (b : Int) : ∀ k : Nat, 0 ≤ cab V b k := by
  intro k
  induction k with
  | zero => exact Int.le_refl 0
  | succ k ih => rw [cab]; split <;> omega
theorem cab_0 {V : Int → Int} {b : Int} : ∀ {k : Nat}, cab V b k = 0 ↔ ∀ j : Int, 0 ≤ j → j < k → V j ≤ b := by
  intro k
  induction k with
  | zero => exact ⟨fun _ j h0 h1 => by omega, fun _ => rfl⟩
  | succ k ih =>
    have h := cab_rng V b k
    rw [cab]
    constructor
    · intro q j j0 j1
      by_cases x1 : V k ≤ b
      · rw [if_pos x1] at q
        by_cases x2 : j = k
        · rw [x2]; exact x1
        · exact (ih.mp (by omega)) j j0 (by omega)
      · rw [if_neg x1] at q; omega
    · intro q
      rw [if_pos (q k (by omega) (by omega)), ih.mpr (fun j j0 j1 => q j j0 (by omega))]; rfl
def ldT (F W : Int → Int) : Int → Int := fun j => if 8 ≤ j ∧ j < 20 then F (j - 8) else W j
abbrev kOk (V W : Int → Int) : Prop := (0 ≤ V 0 ∧ V 0 < W 20) ∧ (0 ≤ V 1 ∧ V 1 ≤ 4) ∧ (0 ≤ V 2 ∧ V 2 ≤ 9) ∧ ¬ (V 1 = 2 ∧ V 2 = 0)
/-- a CLAUSE done: whether it was, the row of numbers then -/
def dcW (s n : Int) (V W : Int → Int) : Int × (Int → Int) :=
  if s = 98 then (if 0 < V 0 ∧ W 20 < 3 then (1, comW W n V) else (0, W))
  else if s = 107 then (if kOk V W then (1, up (up W (21 + 8 * V 0 + 6) (V 1)) (21 + 8 * V 0 + 7) (V 2)) else (0, W))
  else if s = 119 then (if cab V 20 n.toNat = 0 then (1, lay (cpN V n) W) else (0, W))
  else (1, ldT (cpN V n) W)
def ClOk (s n : Int) (V : Int → Int) : Prop := (s = 98 ∧ (1 ≤ n ∧ n ≤ 5) ∧ bdf V n 0 9) ∨ (s = 107 ∧ n = 3 ∧ bdf V n 0 9) ∨ (s = 119 ∧ (1 ≤ n ∧ n ≤ 8) ∧ bdf V n 0 999) ∨ (s = 116 ∧ (1 ≤ n ∧ n ≤ 12) ∧ bdf V n 0 999)
theorem cab_cg {V V' : Int → Int} {b : Int} : ∀ k : Nat, (∀ j : Int, 0 ≤ j → j < k → V j = V' j) → cab V b k = cab V' b k := by
  intro k
  induction k with
  | zero => intro _; rfl
  | succ k ih => intro h; rw [cab, cab, ih (fun j j0 j1 => h j j0 (by omega)), h k (by omega) (by omega)]
theorem lay_cg {F F' W : Int → Int} (h : ∀ j : Int, 0 ≤ j → j < 8 → F j = F' j) : lay F W = lay F' W := by
  funext j
  unfold lay
  split
  · rename_i x1; exact h j x1.1 x1.2
  · rfl
theorem ldT_cg {F F' W : Int → Int} (h : ∀ j : Int, 0 ≤ j → j < 12 → F j = F' j) : ldT F W = ldT F' W := by
  funext j
  unfold ldT
  split
  · exact h _ (by omega) (by omega)
  · rfl
theorem cpN_cg {V V' : Int → Int} {n : Int} (h : ∀ j : Int, 0 ≤ j → j < n → V j = V' j) : ∀ j : Int, 0 ≤ j → cpN V n j = cpN V' n j := by
  intro j j0
  unfold cpN
  split
  · rename_i x1; exact h j j0 x1
  · rfl
theorem dcW_b {n : Int} {V W : Int → Int} : dcW 98 n V W = if 0 < V 0 ∧ W 20 < 3 then (1, comW W n V) else (0, W) := by
  unfold dcW; rw [if_pos rfl]
theorem dcW_k {n : Int} {V W : Int → Int} : dcW 107 n V W = if kOk V W then (1, up (up W (21 + 8 * V 0 + 6) (V 1)) (21 + 8 * V 0 + 7) (V 2)) else (0, W) := by
  unfold dcW; rw [if_neg (by decide), if_pos rfl]
theorem dcW_w {n : Int} {V W : Int → Int} : dcW 119 n V W = if cab V 20 n.toNat = 0 then (1, lay (cpN V n) W) else (0, W) := by
  unfold dcW; rw [if_neg (by decide), if_neg (by decide), if_pos rfl]
theorem dcW_t {s n : Int} {V W : Int → Int} (h1 : s ≠ 98) (h2 : s ≠ 107) (h3 : s ≠ 119) : dcW s n V W = (1, ldT (cpN V n) W) := by
  unfold dcW; rw [if_neg h1, if_neg h2, if_neg h3]
/-- a CLAUSE speaks of its own numbers alone -/
theorem dcW_cg {s n : Int} {V V' W : Int → Int} (hc : ClOk s n V) (h : ∀ j : Int, 0 ≤ j → j < n → V j = V' j) : dcW s n V W = dcW s n V' W := by
  rcases hc with ⟨rfl, x2, -⟩ | ⟨rfl, x2, -⟩ | ⟨rfl, x2, -⟩ | ⟨rfl, x2, -⟩
  · rw [dcW_b, dcW_b, h 0 (by omega) (by omega), comW_cg h]
  · rw [dcW_k, dcW_k]
    unfold kOk
    rw [h 0 (by omega) (by omega), h 1 (by omega) (by omega), h 2 (by omega) (by omega)]
  · rw [dcW_w, dcW_w, cab_cg n.toNat (fun j j0 j1 => h j j0 (by omega)), lay_cg (fun j j0 _ => cpN_cg h j j0)]
  · rw [dcW_t (by decide) (by decide) (by decide), dcW_t (by decide) (by decide) (by decide), ldT_cg (fun j j0 _ => cpN_cg h j j0)]
theorem comW_far {W : Int → Int} {c : Int} {N : Int → Int} (h2 : 0 ≤ W 20 ∧ W 20 < 3) : ∀ j : Int, 45 ≤ j → comW W c N j = W j := by
  intro j hj
  unfold comW
  rw [if_neg (by omega), if_neg (by omega), if_neg (by omega), if_neg (by omega)]
theorem comW_WOk {W : Int → Int} {c : Int} {N : Int → Int} (hw : WOk W) (h3 : W 20 < 3) (hc : 1 ≤ c ∧ c ≤ 5) (hN9 : bdf N c 0 9) (h09 : 0 < N 0) : WOk (comW W c N) := by
  obtain ⟨hR, hT9, hm9, hb9, hz9⟩ := hw
  have hlow : ∀ j : Int, j < 20 → comW W c N j = W j := fun j hj => by
    unfold comW; rw [if_neg (by omega), if_neg (by omega), if_neg (by omega), if_neg (by omega)]
  have h20 : comW W c N 20 = W 20 + 1 := by unfold comW; rw [if_pos rfl]
  have hoth : ∀ b : Int, 0 ≤ b → b < 3 → b ≠ W 20 → ∀ k : Int, 0 ≤ k → k < 8 → comW W c N (21 + 8 * b + k) = W (21 + 8 * b + k) := fun b b0 b1 hne k k0 k1 => by
    unfold comW; rw [if_neg (by omega), if_neg (by omega), if_neg (by omega), if_neg (by omega)]
  have hA9 : ∀ k : Int, 0 ≤ k → k < 5 → bsA (comW W c N) (W 20) k = cpN N c k := fun k k0 k1 => by
    unfold bsA comW; rw [if_neg (by omega), if_neg (by omega), if_pos (by omega)]
    congr 1; omega
  refine ⟨fun j j0 j1 => by rw [hlow j (by omega)]; exact hR j j0 j1, fun j j0 j1 => ?_, by rw [h20]; omega, fun b b0 b1 => ?_, fun b b0 b1 => ?_⟩
  · unfold tdW; rw [hlow _ (by omega)]; exact hT9 j j0 j1
  · by_cases e9 : b = W 20
    · subst e9
      refine ⟨fun k k0 k1 => ?_, ?_, ?_, ?_, fun q9 => ?_⟩
      · rw [hA9 k k0 k1]; unfold cpN; split
        · rename_i x1; exact hN9 k k0 x1
        · omega
      · unfold comW; rw [if_neg (by omega), if_pos rfl]; omega
      · unfold bsK comW; rw [if_neg (by omega), if_neg (by omega), if_neg (by omega), if_pos (by omega)]; omega
      · unfold bsN comW; rw [if_neg (by omega), if_neg (by omega), if_neg (by omega), if_pos (by omega)]; omega
      · exfalso
        unfold bsK comW at q9; rw [if_neg (by omega), if_neg (by omega), if_neg (by omega), if_pos (by omega)] at q9; omega
    · obtain ⟨q1, q2, q3, q4, q5⟩ := hb9 b b0 b1
      have z := hoth b b0 b1 e9
      refine ⟨fun k k0 k1 => ?_, ?_, ?_, ?_, ?_⟩
      · have z1 := z (1 + k) (by omega) (by omega)
        unfold bsA
        rw [show 21 + 8 * b + 1 + k = 21 + 8 * b + (1 + k) by omega, z1, show 21 + 8 * b + (1 + k) = 21 + 8 * b + 1 + k by omega]; exact q1 k k0 k1
      · have z1 := z 0 (by omega) (by omega)
        rw [Int.add_zero] at z1; rw [z1]; exact q2
      · unfold bsK at q3 ⊢; rw [z 6 (by omega) (by omega)]; exact q3
      · unfold bsN at q4 ⊢; rw [z 7 (by omega) (by omega)]; exact q4
      · unfold bsK bsN at q5 ⊢; rw [z 6 (by omega) (by omega), z 7 (by omega) (by omega)]; exact q5
  · rw [h20] at b1
    by_cases e9 : b = W 20
    · subst e9
      rw [hA9 0 (by omega) (by omega)]; unfold cpN; rw [if_pos (by omega)]; exact h09
    · have q1 := hz9 b b0 (by omega)
      have z1 := hoth b b0 (by omega) e9 1 (by omega) (by omega)
      unfold bsA at q1 ⊢
      rw [Int.add_zero] at q1 ⊢; rw [z1]; exact q1
theorem hld_WOk {W : Int → Int} (hw : WOk W) {b k n : Int} (hb9 : 0 ≤ b ∧ b < 3) (hk9 : 0 ≤ k ∧ k ≤ 4) (hn9 : 0 ≤ n ∧ n ≤ 9) (hp : ¬ (k = 2 ∧ n = 0)) : WOk (up (up W (21 + 8 * b + 6) k) (21 + 8 * b + 7) n) := by
  obtain ⟨hR, hT9, hm9, hq9, hz9⟩ := hw
  have ho : ∀ j : Int, j ≠ 21 + 8 * b + 6 → j ≠ 21 + 8 * b + 7 → up (up W (21 + 8 * b + 6) k) (21 + 8 * b + 7) n j = W j := fun j h1 h2 => by rw [up_ne h2, up_ne h1]
  refine ⟨fun j j0 j1 => by rw [ho j (by omega) (by omega)]; exact hR j j0 j1, fun j j0 j1 => ?_, by rw [ho 20 (by omega) (by omega)]; exact hm9, fun d d0 d1 => ?_, fun d d0 d1 => ?_⟩
  · unfold tdW; rw [ho _ (by omega) (by omega)]; exact hT9 j j0 j1
  · obtain ⟨q1, q2, q3, q4, q5⟩ := hq9 d d0 d1
    have hA9 : bdf (bsA (up (up W (21 + 8 * b + 6) k) (21 + 8 * b + 7) n) d) 5 0 9 := fun j j0 j1 => by unfold bsA; rw [ho _ (by omega) (by omega)]; exact q1 j j0 j1
    refine ⟨hA9, by rw [ho _ (by omega) (by omega)]; exact q2, ?_⟩
    by_cases e9 : d = b
    · subst e9
      unfold bsK bsN
      rw [up_same, up_ne (by omega), up_same]
      exact ⟨hk9, hn9, fun q => by omega⟩
    · simp only [bsK, bsN] at q3 q4 q5 ⊢
      rw [ho _ (by omega) (by omega), ho _ (by omega) (by omega)]
      exact ⟨q3, q4, q5⟩
  · rw [ho 20 (by omega) (by omega)] at d1
    have q1 := hz9 d d0 d1
    unfold bsA at q1 ⊢
    rw [ho _ (by omega) (by omega)]; exact q1
theorem ldT_WOk {W F : Int → Int} (hw : WOk W) (hF : bdf F 12 0 999) : WOk (ldT F W) := by
  obtain ⟨hR, hT9, hm9, hq9, hz9⟩ := hw
  have ho : ∀ j : Int, 20 ≤ j → ldT F W j = W j := fun j h1 => by unfold ldT; rw [if_neg (by omega)]
  refine ⟨fun j j0 j1 => by unfold ldT; rw [if_neg (by omega)]; exact hR j j0 j1, fun j j0 j1 => ?_, by rw [ho 20 (by omega)]; exact hm9, fun d d0 d1 => ?_, fun d d0 d1 => ?_⟩
  · unfold tdW ldT; rw [if_pos (by omega), show 8 + j - 8 = j by omega]; exact hF j j0 j1
  · obtain ⟨q1, q2, q3, q4, q5⟩ := hq9 d d0 d1
    simp only [bsK, bsN] at q3 q4 q5 ⊢
    refine ⟨fun j j0 j1 => by unfold bsA; rw [ho _ (by omega)]; exact q1 j j0 j1, ?_⟩
    rw [ho _ (by omega), ho _ (by omega), ho _ (by omega)]
    exact ⟨q2, q3, q4, q5⟩
  · rw [ho 20 (by omega)] at d1
    have q1 := hz9 d d0 d1
    unfold bsA at q1 ⊢
    rw [ho _ (by omega)]; exact q1
theorem dcW_WOk {s n : Int} {V W : Int → Int} (hw : WOk W) (hc : ClOk s n V) : WOk (dcW s n V W).2 := by
  unfold dcW
  rcases hc with ⟨x1, x2, x3⟩ | ⟨x1, x2, x3⟩ | ⟨x1, x2, x3⟩ | ⟨x1, x2, x3⟩
  · rw [if_pos x1]
    split
    · rename_i c9; exact comW_WOk hw c9.2 x2 x3 c9.1
    · exact hw
  · rw [if_neg (by omega), if_pos x1]
    split
    · rename_i c9; exact hld_WOk hw ⟨c9.1.1, by have := hw.2.2.1; have := c9.1.2; omega⟩ c9.2.1 c9.2.2.1 c9.2.2.2
    · exact hw
  · rw [if_neg (by omega), if_neg (by omega), if_pos x1]
    split
    · rename_i c9
      have hall := cab_0.mp c9
      refine WOk_far hw (fun j hj => by show lay (cpN V n) W j = W j; unfold lay; rw [if_neg (by omega)]) (fun j j0 j1 => ?_)
      show 0 ≤ lay (cpN V n) W j ∧ lay (cpN V n) W j ≤ 20
      unfold lay cpN
      rw [if_pos ⟨j0, j1⟩]
      split
      · rename_i y; exact ⟨(x3 j j0 y).1, hall j j0 (by omega)⟩
      · omega
    · exact hw
  · rw [if_neg (by omega), if_neg (by omega), if_neg (by omega)]
    refine ldT_WOk hw (fun j j0 j1 => ?_)
    unfold cpN
    split
    · rename_i y; exact x3 j j0 y
    · omega
theorem dcW_far {s n : Int} {V W : Int → Int} (hm9 : 0 ≤ W 20 ∧ W 20 ≤ 3) : ∀ j : Int, 45 ≤ j → (dcW s n V W).2 j = W j := by
  intro j hj
  unfold dcW
  split
  · split
    · rename_i c9; exact comW_far ⟨hm9.1, c9.2⟩ j hj
    · rfl
  · split
    · split
      · rename_i c9
        have h1 := c9.1
        show up (up W (21 + 8 * V 0 + 6) (V 1)) (21 + 8 * V 0 + 7) (V 2) j = W j
        rw [up_ne (by omega), up_ne (by omega)]
      · rfl
    · split
      · split
        · show lay (cpN V n) W j = W j
          unfold lay; rw [if_neg (by omega)]
        · rfl
      · show ldT (cpN V n) W j = W j
        unfold ldT; rw [if_neg (by omega)]
theorem dcW_01 (s n : Int) (V W : Int → Int) : (dcW s n V W).1 = 0 ∨ (dcW s n V W).1 = 1 := by
  unfold dcW
  (repeat' split) <;> first | exact Or.inl rfl | exact Or.inr rfl
/-- n CLAUSES from p on done: how many were, the row of numbers then -/
def doN (T : Int → Int) (L : Int) : Nat → Int → (Int → Int) → Int × (Int → Int)
  | 0, _, W => (0, W)
  | n + 1, p, W => ((dcW (sgn T L p) (clR T L p).2.2 (clV T L p) W).1 + (doN T L n ((clR T L p).2.1 + 1) (dcW (sgn T L p) (clR T L p).2.2 (clV T L p) W).2).1, (doN T L n ((clR T L p).2.1 + 1) (dcW (sgn T L p) (clR T L p).2.2 (clV T L p) W).2).2)
/-- how many CLAUSES from p on, of k at most -/
def ncl (T : Int → Int) (L : Int) : Nat → Int → Nat
  | 0, _ => 0
  | k + 1, p => if L ≤ (clR T L p).2.1 then 1 else 1 + ncl T L k ((clR T L p).2.1 + 1)
def cps (T : Int → Int) (L : Int) : Nat → Int
  | 0 => 0
  | k + 1 => (clR T L (cps T L k)).2.1 + 1
theorem nmv_rng {T : Int → Int} {p : Int} : ∀ d : Nat, (∀ j : Int, 0 ≤ j → j < d → 48 ≤ T (p + j) ∧ T (p + j) ≤ 57) → 0 ≤ nmv T p d ∧ (d = 0 → nmv T p d ≤ 0) ∧ (d = 1 → nmv T p d ≤ 9) ∧ (d = 2 → nmv T p d ≤ 99) ∧ (d = 3 → nmv T p d ≤ 999) := by
  intro d
  induction d with
  | zero => intro _; exact ⟨Int.le_refl 0, fun _ => Int.le_refl 0, fun h => by omega, fun h => by omega, fun h => by omega⟩
  | succ d ih =>
    intro h
    have h1 := ih (fun j j0 j1 => h j j0 (by omega))
    have h2 := h d (by omega) (by omega)
    rw [nmv]
    refine ⟨by omega, fun q => by omega, fun q => ?_, fun q => ?_, fun q => ?_⟩
    · have := h1.2.1 (by omega); omega
    · have := h1.2.2.1 (by omega); omega
    · have := h1.2.2.2.1 (by omega); omega
theorem nrd_ok {T : Int → Int} {L p : Int} : ∀ (k i : Nat), (nrd T L p k i).1 = 1 → (∀ j : Nat, j < i → 0 < dgs T L 3 (nst T L p j)) → ∀ j : Nat, (j : Int) < (nrd T L p k i).2.2 → 0 < dgs T L 3 (nst T L p j) := by
  intro k
  induction k with
  | zero => intro i h _ j hj; exact absurd (show (0 : Int) = 1 from h) (by decide)
  | succ k ih =>
    intro i h hi j hj
    rw [nrd] at h hj
    split at h
    · exact absurd (show (0 : Int) = 1 from h) (by decide)
    · rename_i x1
      rw [if_neg x1] at hj
      split at h
      · rename_i x2
        rw [if_pos x2] at hj
        have hj2 : (j : Int) < (i : Int) + 1 := hj
        by_cases e9 : j = i
        · subst e9; omega
        · exact hi j (by omega)
      · rename_i x2
        rw [if_neg x2] at hj
        refine ih (i + 1) h (fun q hq => ?_) j hj
        by_cases e9 : q = i
        · subst e9; omega
        · exact hi q (by omega)
theorem clR_ok {T : Int → Int} {L p : Int} (h : (clR T L p).1 = 1) : ClOk (sgn T L p) (clR T L p).2.2 (clV T L p) := by
  have a5 := dgs_rng (T := T) (L := L) 5 (p + 1)
  have a3 := dgs_rng (T := T) (L := L) 3 (p + 1)
  have hn : ∀ k : Nat, (nrd T L (p + 1) k 0).1 = 1 → 0 ≤ nst T L (p + 1) 0 → nst T L (p + 1) 0 ≤ L → (1 ≤ (nrd T L (p + 1) k 0).2.2 ∧ (nrd T L (p + 1) k 0).2.2 ≤ k) ∧ bdf (fun j => nmv T (nst T L (p + 1) j.toNat) (dgs T L 3 (nst T L (p + 1) j.toNat)).toNat) (nrd T L (p + 1) k 0).2.2 0 999 := by
    intro k h1 h2 h3
    have r := nrd_rng (T := T) (L := L) (p := p + 1) k 0 h2 h3
    have r5 := r.2.2.2.2 h1
    have r4 := r.2.2.2.1
    refine ⟨⟨by omega, by omega⟩, fun j j0 j1 => ?_⟩
    have d1 := dgs_rng (T := T) (L := L) 3 (nst T L (p + 1) j.toNat)
    have d2 := nmv_rng (T := T) (p := nst T L (p + 1) j.toNat) (dgs T L 3 (nst T L (p + 1) j.toNat)).toNat (fun i i0 i1 => dgs_dig (T := T) (L := L) 3 (nst T L (p + 1) j.toNat) i i0 (by omega))
    have d3 : (dgs T L 3 (nst T L (p + 1) j.toNat)).toNat = 0 ∨ (dgs T L 3 (nst T L (p + 1) j.toNat)).toNat = 1 ∨ (dgs T L 3 (nst T L (p + 1) j.toNat)).toNat = 2 ∨ (dgs T L 3 (nst T L (p + 1) j.toNat)).toNat = 3 := by omega
    show 0 ≤ nmv T (nst T L (p + 1) j.toNat) (dgs T L 3 (nst T L (p + 1) j.toNat)).toNat ∧ nmv T (nst T L (p + 1) j.toNat) (dgs T L 3 (nst T L (p + 1) j.toNat)).toNat ≤ 999
    refine ⟨d2.1, ?_⟩
    rcases d3 with y | y | y | y
    · have := d2.2.1 y; omega
    · have := d2.2.2.1 y; omega
    · have := d2.2.2.2.1 y; omega
    · exact d2.2.2.2.2 y
  unfold clR at h ⊢
  unfold ClOk
  split at h
  · rename_i x1
    rw [if_pos x1]
    have h5 : 1 ≤ dgs T L 5 (p + 1) := by
      by_cases y : 1 ≤ dgs T L 5 (p + 1)
      · exact y
      · exact absurd (show (if 1 ≤ dgs T L 5 (p + 1) then (1 : Int) else 0) = 1 from h) (by rw [if_neg y]; decide)
    refine Or.inl ⟨x1, ⟨h5, by show dgs T L 5 (p + 1) ≤ 5; omega⟩, fun j j0 j1 => ?_⟩
    have d1 := dgs_dig (T := T) (L := L) 5 (p + 1) j j0 j1
    unfold clV; rw [if_pos (Or.inl x1)]; omega
  · rename_i x1
    rw [if_neg x1]
    split at h
    · rename_i x2
      rw [if_pos x2]
      have h5 : 3 ≤ dgs T L 3 (p + 1) := by
        by_cases y : 3 ≤ dgs T L 3 (p + 1)
        · exact y
        · exact absurd (show (if 3 ≤ dgs T L 3 (p + 1) then (1 : Int) else 0) = 1 from h) (by rw [if_neg y]; decide)
      refine Or.inr (Or.inl ⟨x2, by show dgs T L 3 (p + 1) = 3; omega, fun j j0 j1 => ?_⟩)
      have d1 := dgs_dig (T := T) (L := L) 3 (p + 1) j j0 j1
      unfold clV; rw [if_pos (Or.inr x2)]; omega
    · rename_i x2
      rw [if_neg x2]
      split at h
      · rename_i x3
        rw [if_pos x3]
        have hl := sgn_lt (T := T) (L := L) (p := p) (by omega)
        have h6 := hn 8 h (by show 0 ≤ p + 1; omega) (by show p + 1 ≤ L; omega)
        refine Or.inr (Or.inr (Or.inl ⟨x3, h6.1, fun j j0 j1 => ?_⟩))
        unfold clV; rw [if_neg (by omega)]; exact h6.2 j j0 j1
      · rename_i x3
        rw [if_neg x3]
        split at h
        · rename_i x4
          rw [if_pos x4]
          have hl := sgn_lt (T := T) (L := L) (p := p) (by omega)
          have h6 := hn 12 h (by show 0 ≤ p + 1; omega) (by show p + 1 ≤ L; omega)
          refine Or.inr (Or.inr (Or.inr ⟨x4, h6.1, fun j j0 j1 => ?_⟩))
          unfold clV; rw [if_neg (by omega)]; exact h6.2 j j0 j1
        · exact absurd (show (0 : Int) = 1 from h) (by decide)
/-! the reference's reading -/
def hrW (F p : Int) (T : Int → Int) (L : Int) : Int := if F < 0 then sgn T L p else -1
/-- the row of what was read, the m-th CLAUSE in it: s, n numbers V -/
def clS (R : Int → Int) (m s n : Int) (V : Int → Int) : Int → Int := fun j => if j = 14 * m then s else if j = 14 * m + 1 then n else if 14 * m + 2 ≤ j ∧ j < 14 * m + 2 + n then V (j - 14 * m - 2) else R j
theorem clS_1 (R : Int → Int) (m s n : Int) (V : Int → Int) : clS R m s n V (14 * m + 1) = n := by
  unfold clS; rw [if_neg (by omega), if_pos rfl]
theorem clS_0 (R : Int → Int) (m s : Int) (V : Int → Int) : up (up R (14 * m) s) (14 * m + 1) 0 = clS R m s 0 V := by
  funext j
  unfold clS
  by_cases h1 : j = 14 * m
  · rw [if_pos h1, up_ne (by omega), h1, up_same]
  · rw [if_neg h1]
    by_cases h2 : j = 14 * m + 1
    · rw [if_pos h2, h2, up_same]
    · rw [if_neg h2, if_neg (by omega), up_ne h2, up_ne h1]
theorem clS_tl (R : Int → Int) (m s n v : Int) (V : Int → Int) (hn9 : 0 ≤ n) : up (up (clS R m s n V) (14 * m + 2 + clS R m s n V (14 * m + 1)) v) (14 * m + 1) (clS R m s n V (14 * m + 1) + 1) = clS R m s (n + 1) (up V n v) := by
  rw [clS_1]
  funext j
  by_cases h1 : j = 14 * m + 1
  · rw [h1, up_same, clS_1]
  · rw [up_ne h1]
    by_cases h2 : j = 14 * m + 2 + n
    · rw [h2, up_same]
      unfold clS; rw [if_neg (by omega), if_neg (by omega), if_pos (by omega), show 14 * m + 2 + n - 14 * m - 2 = n by omega, up_same]
    · rw [up_ne h2]
      unfold clS
      by_cases h3 : j = 14 * m
      · rw [if_pos h3, if_pos h3]
      · rw [if_neg h3, if_neg h3, if_neg h1, if_neg h1]
        by_cases h4 : 14 * m + 2 ≤ j ∧ j < 14 * m + 2 + n
        · rw [if_pos h4, if_pos (by omega), up_ne (by omega)]
        · rw [if_neg h4, if_neg (by omega)]
theorem clS_tv (R : Int → Int) (m s n v : Int) (V : Int → Int) (hn9 : 0 ≤ n) (hv9 : v = V n) : up (up (clS R m s n V) (14 * m + 2 + clS R m s n V (14 * m + 1)) v) (14 * m + 1) (clS R m s n V (14 * m + 1) + 1) = clS R m s (n + 1) V := by
  rw [clS_tl R m s n v V hn9, hv9, up_self]
theorem clS_cg {R V V' : Int → Int} {m s n : Int} (h : ∀ j : Int, 0 ≤ j → j < n → V j = V' j) : clS R m s n V = clS R m s n V' := by
  funext j
  unfold clS
  split
  · rfl
  · split
    · rfl
    · split
      · exact h _ (by omega) (by omega)
      · rfl
def dgV (T : Int → Int) (p : Int) : Int → Int := fun j => T (p + j) - 48
def nbV (T : Int → Int) (L p : Int) : Int → Int := fun j => nmv T (nst T L p j.toNat) (dgs T L 3 (nst T L p j.toNat)).toNat
abbrev dig (T : Int → Int) (L p : Int) : Prop := 48 ≤ sgn T L p ∧ sgn T L p ≤ 57
theorem dg_y {T : Int → Int} {L p : Int} {k : Nat} (h : dig T L p) : dgs T L (k + 1) p = 1 + dgs T L k (p + 1) := by rw [dgs, if_pos h]
theorem dg_n {T : Int → Int} {L p : Int} {k : Nat} (h : ¬ dig T L p) : dgs T L k p = 0 := by
  cases k with
  | zero => rfl
  | succ k => rw [dgs, if_neg h]
theorem nmv_1 (T : Int → Int) (p : Int) : nmv T p (1 : Int).toNat = T p - 48 := by
  show 10 * 0 + (T (p + (0 : Nat)) - 48) = _
  simp
theorem nmv_2 (T : Int → Int) (p : Int) : nmv T p (2 : Int).toNat = 10 * (T p - 48) + (T (p + 1) - 48) := by
  show 10 * (10 * 0 + (T (p + (0 : Nat)) - 48)) + (T (p + (1 : Nat)) - 48) = _
  simp
theorem nmv_3 (T : Int → Int) (p : Int) : nmv T p (3 : Int).toNat = 10 * (10 * (T p - 48) + (T (p + 1) - 48)) + (T (p + 1 + 1) - 48) := by
  show 10 * (10 * (10 * 0 + (T (p + (0 : Nat)) - 48)) + (T (p + (1 : Nat)) - 48)) + (T (p + (2 : Nat)) - 48) = _
  rw [show p + 1 + 1 = p + ((2 : Nat) : Int) by omega]
  simp
/-- what the k-th CLAUSE at p was is read at its place -/
def StC (G T : Int → Int) (L p : Int) (k : Int) : Prop := G (14 * k) = sgn T L p ∧ G (14 * k + 1) = (clR T L p).2.2 ∧ ∀ j : Int, 0 ≤ j → j < (clR T L p).2.2 → G (14 * k + 2 + j) = clV T L p j
theorem sgn_rng {T : Int → Int} {L p : Int} (hG : bdf T 100 0 127) (hL : L ≤ 100) : -1 ≤ sgn T L p ∧ sgn T L p ≤ 127 := by
  unfold sgn
  split
  · rename_i x1
    have h1 := hG p x1.1 (by omega)
    omega
  · omega
