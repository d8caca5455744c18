/-! the law: its own rows over V; what the invariant gives the contracts -/
def sx (xs : Nat → Int32) (k : Int) : Int := (xs k.toNat).toInt
def SX (z : Fz) (g : Gl) (b L : Nat) (xs : Nat → Int32) : Prop :=
  match z with
  | (_, _, _, _, s, _, _, _, _, _, _, _, _) => va_X b L xs s s.heap ∧ b < s.heap.size ∧ ¬ Aw g b
section VL
variable {z : Fz} {g : Gl} {cc : ByteArray} {nL : Nat} {own : String} {Ts : List Cond} {fr lo : Nat} {M : Mem} {ls : List (Nat × Value)} {st : List Value} {pc : Nat} {b L : Nat} {xs : Nat → Int32}
theorem v_sld (ok : Ok z g cc nL own Ts fr lo) (hX : SX z g b L xs) {k : Int} (h0 : 0 ≤ k) (h1 : k < L) (hL : L ≤ 3072) (hdg : decode cc pc = .ok (.iaload, 1)) (kk : V z g nL M ls (iv (sx xs k) :: st) (pc + 1)) : V z g nL M ls (iv k :: .ref b :: st) pc := by
  obtain ⟨p, l, e, R, s, m, args, below, meth, c, cells, slots, Q⟩ := z
  obtain ⟨⟨hx, hb, hml, hown, hts⟩, hK, hN, hI, hfr, hlo, hce, hsl⟩ := ok
  intro H locs la hP hS hl
  refine va_sld hx hb hX.1 hX.2.1 hX.2.2 hS (iI_in h0 h1 (by omega)) hdg ?_
  rw [iI_cl ⟨by omega, by omega⟩, iI_of (xs k.toNat)]
  exact kk H locs la hP hS hl
theorem v_slen (ok : Ok z g cc nL own Ts fr lo) (hX : SX z g b L xs) (hdg : decode cc pc = .ok (.arraylength, 1)) (kk : V z g nL M ls (iv (L : Int) :: st) (pc + 1)) : V z g nL M ls (.ref b :: st) pc := by
  obtain ⟨p, l, e, R, s, m, args, below, meth, c, cells, slots, Q⟩ := z
  obtain ⟨⟨hx, hb, hml, hown, hts⟩, hK, hN, hI, hfr, hlo, hce, hsl⟩ := ok
  intro H locs la hP hS hl
  refine va_slen hx hb hX.1 hX.2.1 hX.2.2 hS hdg ?_
  rw [iI_nat]
  exact kk H locs la hP hS hl
theorem and63 (a : Int32) : ∃ r : Int, a &&& iI 63 = iI r ∧ 0 ≤ r ∧ r ≤ 63 := by
  obtain ⟨j, h1, h2⟩ := pk_andE a (m := iI 63) 6 rfl
  exact ⟨(j : Int), by rw [h2]; exact iI_nat j, by omega, by omega⟩
theorem v_iand63 (ok : Ok z g cc nL own Ts fr lo) {a : Int} (hdg : decode cc pc = .ok (.iand, 1)) (kk : ∀ r : Int, 0 ≤ r → r ≤ 63 → V z g nL M ls (iv r :: st) (pc + 1)) : V z g nL M ls (iv 63 :: iv a :: st) pc := by
  obtain ⟨p, l, e, R, s, m, args, below, meth, c, cells, slots, Q⟩ := z
  obtain ⟨⟨hx, hb, hml, hown, hts⟩, hK, hN, hI, hfr, hlo, hce, hsl⟩ := ok
  intro H locs la hP hS hl
  obtain ⟨r, h1, h2, h3⟩ := and63 (iI a)
  refine lv_iand hx hb hdg ?_
  rw [h1]
  exact kk r h2 h3 H locs la hP hS hl
def shx (a : Int) : Int := (lI a <<< ((iI 32).toInt64 &&& 63)).toInt
def anx (a b : Int) : Int := (lI a &&& lI b).toInt
def orx (a b : Int) : Int := (lI a ||| lI b).toInt
theorem v_shx (ok : Ok z g cc nL own Ts fr lo) {a : Int} (hdg : decode cc pc = .ok (.lshl, 1)) (kk : V z g nL M ls (jv (shx a) :: st) (pc + 1)) : V z g nL M ls (iv 32 :: jv a :: st) pc := by
  obtain ⟨p, l, e, R, s, m, args, below, meth, c, cells, slots, Q⟩ := z
  obtain ⟨⟨hx, hb, hml, hown, hts⟩, hK, hN, hI, hfr, hlo, hce, hsl⟩ := ok
  intro H locs la hP hS hl
  exact lv_lshl hx hb hdg (lI_of _) (kk H locs la hP hS hl)
theorem v_anx (ok : Ok z g cc nL own Ts fr lo) {a c0 : Int} (hdg : decode cc pc = .ok (.land, 1)) (kk : V z g nL M ls (jv (anx a c0) :: st) (pc + 1)) : V z g nL M ls (jv c0 :: jv a :: st) pc := by
  obtain ⟨p, l, e, R, s, m, args, below, meth, c, cells, slots, Q⟩ := z
  obtain ⟨⟨hx, hb, hml, hown, hts⟩, hK, hN, hI, hfr, hlo, hce, hsl⟩ := ok
  intro H locs la hP hS hl
  refine lv_land hx hb hdg ?_
  rw [lI_of (lI a &&& lI c0)]
  exact kk H locs la hP hS hl
theorem v_orx (ok : Ok z g cc nL own Ts fr lo) {a c0 : Int} (hdg : decode cc pc = .ok (.lor, 1)) (kk : V z g nL M ls (jv (orx a c0) :: st) (pc + 1)) : V z g nL M ls (jv c0 :: jv a :: st) pc := by
  obtain ⟨p, l, e, R, s, m, args, below, meth, c, cells, slots, Q⟩ := z
  obtain ⟨⟨hx, hb, hml, hown, hts⟩, hK, hN, hI, hfr, hlo, hce, hsl⟩ := ok
  intro H locs la hP hS hl
  refine lv_lor hx hb hdg ?_
  rw [lI_of (lI a ||| lI c0)]
  exact kk H locs la hP hS hl
theorem v_same (ok : Ok z g cc nL own Ts fr lo) {a : Int} {off : Int} {tgt : Nat} (hdg : decode cc pc = .ok (.if_icmp .eq off, 3)) (ht : (pc : Int) + off = (tgt : Int)) (kk : V z g nL M ls st tgt) : V z g nL M ls (iv a :: iv a :: st) pc := by
  obtain ⟨p, l, e, R, s, m, args, below, meth, c, cells, slots, Q⟩ := z
  obtain ⟨⟨hx, hb, hml, hown, hts⟩, hK, hN, hI, hfr, hlo, hce, hsl⟩ := ok
  intro H locs la hP hS hl
  exact lv_icmp_eq hx hb hdg ht (fun _ => kk H locs la hP hS hl) (fun h => absurd rfl h)
theorem v_lsame (ok : Ok z g cc nL own Ts fr lo) {a : Int} (hdg : decode cc pc = .ok (.lcmp, 1)) (kk : V z g nL M ls (iv 0 :: st) (pc + 1)) : V z g nL M ls (jv a :: jv a :: st) pc := by
  obtain ⟨p, l, e, R, s, m, args, below, meth, c, cells, slots, Q⟩ := z
  obtain ⟨⟨hx, hb, hml, hown, hts⟩, hK, hN, hI, hfr, hlo, hce, hsl⟩ := ok
  intro H locs la hP hS hl
  refine W.lcmp hx hb hdg ?_
  have h1 : lg_cmp (lI a) (lI a) = iI 0 := by
    unfold lg_cmp
    rw [if_neg (Int64.lt_irrefl), if_pos rfl]; rfl
  rw [h1]
  exact kk H locs la hP hS hl
end VL
theorem inv_rain {M : Mem} (hI : InvF M) : bdf (M 3) 8 0 20 := by
  have h : M 3 = M 79 := hI.1.1.2.1
  rw [h]; exact hI.1.2.1
theorem inv_m {M : Mem} (hI : InvF M) : 0 ≤ M 2 2 ∧ M 2 2 ≤ 3 := by
  have h : M 2 2 = M 79 20 := hI.1.1.1
  rw [h]; exact hI.1.2.2.2.1
theorem inv_r12 {M : Mem} (hI : InvF M) : 0 ≤ M 12 3 ∧ M 12 3 ≤ M 12 2 ∧ M 12 2 ≤ 8 := by
  have h : M 12 3 = M 79 45 := hI.2.1.1.1.1
  have h2 : M 12 2 = 5 := hI.2.2.2.1.1
  have h3 := hI.2.1.2.1.1
  omega
theorem inv_r15 {M : Mem} (hI : InvF M) : 0 ≤ M 15 3 ∧ M 15 3 ≤ M 15 2 ∧ M 15 2 ≤ 8 := by
  have h : M 15 3 = M 79 56 := hI.2.1.1.2.1.1
  have h2 : M 15 2 = 8 := hI.2.2.2.1.2.1
  have h3 := hI.2.1.2.2.1.1
  omega
theorem inv_r18 {M : Mem} (hI : InvF M) : 0 ≤ M 18 3 ∧ M 18 3 ≤ M 18 2 ∧ M 18 2 ≤ 8 := by
  have h : M 18 3 = M 79 73 := hI.2.1.1.2.2.1
  have h2 : M 18 2 = 8 := hI.2.2.2.1.2.2
  have h3 := hI.2.1.2.2.2.1
  omega
theorem inv_row12 {M : Mem} (hI : InvF M) : RowOk M 12 := by
  have h : M 12 3 = M 79 45 := hI.2.1.1.1.1
  have hH : M 13 = sn5 (rwH (M 79) 46) := hI.2.1.1.1.2.1
  have hN9 : M 14 = sn5 (rwN (M 79) 46) := hI.2.1.1.1.2.2
  obtain ⟨h1, h2, h3⟩ := hI.2.1.2.1
  refine ⟨inv_r12 hI, fun k k0 k1 => ?_, fun k k0 k1 => ?_⟩
  · show 0 ≤ M 13 k ∧ M 13 k ≤ 29
    rw [hH]; unfold sn5; rw [if_pos (by omega)]; exact h2 k k0 (by omega)
  · show 0 ≤ M 14 k ∧ M 14 k ≤ 9999
    rw [hN9]; unfold sn5; rw [if_pos (by omega)]; exact h3 k k0 (by omega)
theorem inv_row18 {M : Mem} (hI : InvF M) : RowOk M 18 := by
  have h : M 18 3 = M 79 73 := hI.2.1.1.2.2.1
  have hH : M 19 = rwH (M 79) 74 := hI.2.1.1.2.2.2.1
  have hN9 : M 20 = rwN (M 79) 74 := hI.2.1.1.2.2.2.2
  obtain ⟨h1, h2, h3⟩ := hI.2.1.2.2.2
  refine ⟨inv_r18 hI, fun k k0 k1 => ?_, fun k k0 k1 => ?_⟩
  · show 0 ≤ M 19 k ∧ M 19 k ≤ 29
    rw [hH]; exact h2 k k0 (by omega)
  · show 0 ≤ M 20 k ∧ M 20 k ≤ 9999
    rw [hN9]; exact h3 k k0 (by omega)
theorem inv_ev {M : Mem} (hI : InvF M) : EvOk M := by
  have h : M 15 3 = M 79 56 := hI.2.1.1.2.1.1
  have hH : M 16 = rwH (M 79) 57 := hI.2.1.1.2.1.2.1
  have hN9 : M 17 = rwN (M 79) 57 := hI.2.1.1.2.1.2.2
  have hm : M 2 2 = M 79 20 := hI.1.1.1
  obtain ⟨h1, h2⟩ := hI.2.1.2.2.1
  refine ⟨by rw [h]; exact h1, fun r r0 r1 => ?_⟩
  have q9 := h2 r r0 (by omega)
  have e1 : M 16 r = M 79 (57 + 2 * r) := by rw [hH]; rfl
  have e2 : M 17 r = M 79 (58 + 2 * r) := by rw [hN9]; unfold rwN; congr 1; omega
  rw [e1, e2, hm]; exact q9
theorem inv_EvW {M : Mem} (hI : InvF M) : EvW (M 79) := by
  obtain ⟨h1, h2⟩ := hI.2.1.2.2.1
  have hm := hI.1.2.2.2.1
  exact ⟨h1, fun r r0 r1 => by
    have q9 := h2 r r0 r1
    exact ⟨q9.1, q9.2.1, fun x => by have := q9.2.2 x; omega⟩⟩
theorem inv_tps {M : Mem} (hI : InvF M) : TpsOk M := by
  intro q hq
  have h1 : q = 66 ∨ q = 68 ∨ q = 70 ∨ q = 72 ∨ q = 74 ∨ q = 76 := (by decide +kernel : ∀ q, q < 95 → kd q = 8 → q = 66 ∨ q = 68 ∨ q = 70 ∨ q = 72 ∨ q = 74 ∨ q = 76) q (kd_lt hq (by decide)) hq
  have one : ∀ (t : Int) (q : Nat), 0 ≤ t → t < 6 → q = tpQ t → (-1 ≤ M q 1 ∧ M q 1 ≤ 4) ∧ (0 ≤ M q 2 ∧ M q 2 ≤ 60) ∧ ∀ k : Int, 0 ≤ k → k < 60 → i64 (M (q + 1) k) := by
    intro t q t0 t1 e9
    subst e9
    have h2 := tpF hI t0 t1
    have h3 := hI.2.2.2.2.2.2.2.1 t t0 t1
    rw [h2.1, h2.2.1, h2.2.2]
    exact h3
  rcases h1 with rfl | rfl | rfl | rfl | rfl | rfl
  · exact one 0 66 (by omega) (by omega) rfl
  · exact one 1 68 (by omega) (by omega) rfl
  · exact one 2 70 (by omega) (by omega) rfl
  · exact one 3 72 (by omega) (by omega) rfl
  · exact one 4 74 (by omega) (by omega) rfl
  · exact one 5 76 (by omega) (by omega) rfl
theorem inv_k {M : Mem} (hI : InvF M) : 0 ≤ M 0 2 ∧ M 0 2 ≤ 1 := by
  have h := hI.2.2.2.2.1
  unfold F5 at h; omega
theorem inv_L {M : Mem} (hI : InvF M) : 0 ≤ M 62 1 ∧ M 62 1 ≤ 100 := by
  have h : M 62 1 = M 78 5 := hI.2.2.2.2.2.1.1.1
  rw [h]; exact hI.2.2.2.2.2.1.2.1
theorem inv_G {M : Mem} (hI : InvF M) : bdf (M 63) 100 0 127 := by
  have h : M 63 = M 82 := hI.2.2.2.2.2.1.1.2
  rw [h]; exact hI.2.2.2.2.2.1.2.2
