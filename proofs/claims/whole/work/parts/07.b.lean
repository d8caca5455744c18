theorem ko_3_X0_init : Cond.methodLink RX0 3 objectInit ∈ wsX0_init := by decide +kernel
theorem koi_X0_init : Cond.instanceMethod objectInit ∈ wsX0_init := by decide +kernel
theorem koc_X0_init : Cond.code objectInit ⟨#[0xb1]⟩ 1 none ∈ wsX0_init := by decide +kernel
theorem ka_int_X0_init : Cond.arrayClass .int ∈ wsX0_init := by decide +kernel
theorem kf_9_X0_init : Cond.fieldLink RX0 9 "StormRunoff$Basin" "answer" "[I" ∈ wsX0_init := by decide +kernel
theorem kn0_X0_init : ∀ w ∈ wsX00, w ∈ wsX0_init := by decide +kernel
theorem kf_15_X0_init : Cond.fieldLink RX0 15 "StormRunoff$Basin" "places" "I" ∈ wsX0_init := by decide +kernel
theorem kf_19_X0_init : Cond.fieldLink RX0 19 "StormRunoff$Basin" "kind" "I" ∈ wsX0_init := by decide +kernel
theorem kf_22_X0_init : Cond.fieldLink RX0 22 "StormRunoff$Basin" "number" "I" ∈ wsX0_init := by decide +kernel
def wC0 (d : Gc) (h0 : Nat) (q : Nat → Nat) : va_W := [(h0, .inr (0, [.ref (q 0), iv 0, iv 0, iv 0])), ((q 0), .inl (d.2 0, 5, .inl (fun _ => iI 0)))]
set_option maxRecDepth 100000 in
set_option maxHeartbeats 4000000 in
theorem cn_X0_init (l : Launch) (d : Gc) (h0 sz : Nat) : Cn l d yX0_init wsX0_init 1 12 1 5 h0 (.inr (0, [.null, iv 0, iv 0, iv 0])) sz [] (wC0 d h0) := by
  refine Cn.of (cc := cX0_init) (nL := 1) (by decide) rfl rfl (Nat.le_of_ble_eq_true rfl) (fun z A hz ok hin fin => ?_)
  have ok : OkC z d A cX0_init 1 RX0 wsX0_init 1 12 1 5 := ok
  show Y z d A 1 [(h0, .inr (0, [.null, iv 0, iv 0, iv 0]))] [(0, .ref h0)] [] 0 0 0
  refine y_aload_n ok 0 dX0_init_0 rfl rfl ?_
  refine y_obj ok ko_3_X0_init koi_X0_init koc_X0_init ⟨Nat.le_of_ble_eq_true rfl, Nat.le_of_ble_eq_true rfl⟩ dX0_init_1 ?_
  refine y_aload_n ok 0 dX0_init_4 rfl rfl ?_
  refine y_iconst (n := 5) ok dX0_init_5 ?_
  refine y_newi (N' := 5) ok ka_int_X0_init (by decide) rfl ⟨Nat.le_of_ble_eq_true rfl, Nat.le_of_ble_eq_true rfl⟩ dX0_init_6 (fun a1 => ?_)
  refine y_ws (ws' := [(h0, .inr (0, [.null, iv 0, iv 0, iv 0])), (a1, .inl (d.2 0, 5, .inl (fun _ => iI 0)))]) rfl ?_
  refine y_putF (C := RX0) (T := TX0) (N := 4) (ci := 0) (ty := tyX0 0) (v := .ref a1) (ws' := [(h0, .inr (0, [.ref a1, iv 0, iv 0, iv 0])), (a1, .inl (d.2 0, 5, .inl (fun _ => iI 0)))]) ok hin kn0_X0_init tyX0 tyX0_ok nmX0 0 rfl rfl 0 (by decide) kf_9_X0_init rfl rfl rfl (tyX0_ok 0 (by decide)) rfl rfl (Nat.le_of_ble_eq_true rfl) dX0_init_8 rfl ?_
  refine y_aload_n ok 0 dX0_init_11 rfl rfl ?_
  refine y_iconst (n := 0) ok dX0_init_12 ?_
  refine y_put (C := RX0) (T := TX0) (N := 4) (ci := 0) (ty := tyX0 1) (v := iv 0) (ws' := [(h0, .inr (0, [.ref a1, iv 0, iv 0, iv 0])), (a1, .inl (d.2 0, 5, .inl (fun _ => iI 0)))]) ok kn0_X0_init tyX0 tyX0_ok nmX0 0 rfl rfl 1 (by decide) kf_15_X0_init rfl rfl (tyX0_ok 1 (by decide)) rfl rfl (Nat.le_of_ble_eq_true rfl) dX0_init_13 rfl ?_
  refine y_aload_n ok 0 dX0_init_16 rfl rfl ?_
  refine y_iconst (n := 0) ok dX0_init_17 ?_
  refine y_put (C := RX0) (T := TX0) (N := 4) (ci := 0) (ty := tyX0 2) (v := iv 0) (ws' := [(h0, .inr (0, [.ref a1, iv 0, iv 0, iv 0])), (a1, .inl (d.2 0, 5, .inl (fun _ => iI 0)))]) ok kn0_X0_init tyX0 tyX0_ok nmX0 0 rfl rfl 2 (by decide) kf_19_X0_init rfl rfl (tyX0_ok 2 (by decide)) rfl rfl (Nat.le_of_ble_eq_true rfl) dX0_init_18 rfl ?_
  refine y_aload_n ok 0 dX0_init_21 rfl rfl ?_
  refine y_iconst (n := 0) ok dX0_init_22 ?_
  refine y_put (C := RX0) (T := TX0) (N := 4) (ci := 0) (ty := tyX0 3) (v := iv 0) (ws' := [(h0, .inr (0, [.ref a1, iv 0, iv 0, iv 0])), (a1, .inl (d.2 0, 5, .inl (fun _ => iI 0)))]) ok kn0_X0_init tyX0 tyX0_ok nmX0 0 rfl rfl 3 (by decide) kf_22_X0_init rfl rfl (tyX0_ok 3 (by decide)) rfl rfl (Nat.le_of_ble_eq_true rfl) dX0_init_23 rfl ?_
  exact y_ret ok fin (fun j => ([a1] : List Nat).getD j 0) ⟨Nat.le_of_ble_eq_true rfl, Nat.le_of_ble_eq_true rfl⟩ dX0_init_26 rfl
theorem ko_3_X1_init : Cond.methodLink RX1 3 objectInit ∈ wsX1_init := by decide +kernel
theorem koi_X1_init : Cond.instanceMethod objectInit ∈ wsX1_init := by decide +kernel
theorem koc_X1_init : Cond.code objectInit ⟨#[0xb1]⟩ 1 none ∈ wsX1_init := by decide +kernel
theorem ka_int_X1_init : Cond.arrayClass .int ∈ wsX1_init := by decide +kernel
theorem kf_9_X1_init : Cond.fieldLink RX1 9 "StormRunoff$Course" "flow" "[I" ∈ wsX1_init := by decide +kernel
theorem kn1_X1_init : ∀ w ∈ wsX10, w ∈ wsX1_init := by decide +kernel
theorem kf_15_X1_init : Cond.fieldLink RX1 15 "StormRunoff$Course" "out" "[I" ∈ wsX1_init := by decide +kernel
theorem kf_18_X1_init : Cond.fieldLink RX1 18 "StormRunoff$Course" "joined" "[I" ∈ wsX1_init := by decide +kernel
def wC1 (d : Gc) (h0 : Nat) (q : Nat → Nat) : va_W := [(h0, .inr (1, [.ref (q 0), .ref (q 1), .ref (q 2)])), ((q 0), .inl (d.2 0, 30, .inl (fun _ => iI 0))), ((q 1), .inl (d.2 0, 30, .inl (fun _ => iI 0))), ((q 2), .inl (d.2 0, 30, .inl (fun _ => iI 0)))]
set_option maxRecDepth 100000 in
set_option maxHeartbeats 4000000 in
theorem cn_X1_init (l : Launch) (d : Gc) (h0 sz : Nat) : Cn l d yX1_init wsX1_init 1 12 3 90 h0 (.inr (1, [.null, .null, .null])) sz [] (wC1 d h0) := by
  refine Cn.of (cc := cX1_init) (nL := 1) (by decide) rfl rfl (Nat.le_of_ble_eq_true rfl) (fun z A hz ok hin fin => ?_)
  have ok : OkC z d A cX1_init 1 RX1 wsX1_init 1 12 3 90 := ok
  show Y z d A 1 [(h0, .inr (1, [.null, .null, .null]))] [(0, .ref h0)] [] 0 0 0
  refine y_aload_n ok 0 dX1_init_0 rfl rfl ?_
  refine y_obj ok ko_3_X1_init koi_X1_init koc_X1_init ⟨Nat.le_of_ble_eq_true rfl, Nat.le_of_ble_eq_true rfl⟩ dX1_init_1 ?_
  refine y_aload_n ok 0 dX1_init_4 rfl rfl ?_
  refine y_bipush (n := 30) ok rfl dX1_init_5 ?_
  refine y_newi (N' := 30) ok ka_int_X1_init (by decide) rfl ⟨Nat.le_of_ble_eq_true rfl, Nat.le_of_ble_eq_true rfl⟩ dX1_init_7 (fun a1 => ?_)
  refine y_ws (ws' := [(h0, .inr (1, [.null, .null, .null])), (a1, .inl (d.2 0, 30, .inl (fun _ => iI 0)))]) rfl ?_
  refine y_putF (C := RX1) (T := TX1) (N := 3) (ci := 1) (ty := tyX1 0) (v := .ref a1) (ws' := [(h0, .inr (1, [.ref a1, .null, .null])), (a1, .inl (d.2 0, 30, .inl (fun _ => iI 0)))]) ok hin kn1_X1_init tyX1 tyX1_ok nmX1 0 rfl rfl 0 (by decide) kf_9_X1_init rfl rfl rfl (tyX1_ok 0 (by decide)) rfl rfl (Nat.le_of_ble_eq_true rfl) dX1_init_9 rfl ?_
  refine y_aload_n ok 0 dX1_init_12 rfl rfl ?_
  refine y_bipush (n := 30) ok rfl dX1_init_13 ?_
  refine y_newi (N' := 30) ok ka_int_X1_init (by decide) rfl ⟨Nat.le_of_ble_eq_true rfl, Nat.le_of_ble_eq_true rfl⟩ dX1_init_15 (fun a2 => ?_)
  refine y_ws (ws' := [(h0, .inr (1, [.ref a1, .null, .null])), (a1, .inl (d.2 0, 30, .inl (fun _ => iI 0))), (a2, .inl (d.2 0, 30, .inl (fun _ => iI 0)))]) rfl ?_
  refine y_putF (C := RX1) (T := TX1) (N := 3) (ci := 1) (ty := tyX1 1) (v := .ref a2) (ws' := [(h0, .inr (1, [.ref a1, .ref a2, .null])), (a1, .inl (d.2 0, 30, .inl (fun _ => iI 0))), (a2, .inl (d.2 0, 30, .inl (fun _ => iI 0)))]) ok hin kn1_X1_init tyX1 tyX1_ok nmX1 0 rfl rfl 1 (by decide) kf_15_X1_init rfl rfl rfl (tyX1_ok 1 (by decide)) rfl rfl (Nat.le_of_ble_eq_true rfl) dX1_init_17 rfl ?_
  refine y_aload_n ok 0 dX1_init_20 rfl rfl ?_
  refine y_bipush (n := 30) ok rfl dX1_init_21 ?_
  refine y_newi (N' := 30) ok ka_int_X1_init (by decide) rfl ⟨Nat.le_of_ble_eq_true rfl, Nat.le_of_ble_eq_true rfl⟩ dX1_init_23 (fun a3 => ?_)
  refine y_ws (ws' := [(h0, .inr (1, [.ref a1, .ref a2, .null])), (a1, .inl (d.2 0, 30, .inl (fun _ => iI 0))), (a2, .inl (d.2 0, 30, .inl (fun _ => iI 0))), (a3, .inl (d.2 0, 30, .inl (fun _ => iI 0)))]) rfl ?_
  refine y_putF (C := RX1) (T := TX1) (N := 3) (ci := 1) (ty := tyX1 2) (v := .ref a3) (ws' := [(h0, .inr (1, [.ref a1, .ref a2, .ref a3])), (a1, .inl (d.2 0, 30, .inl (fun _ => iI 0))), (a2, .inl (d.2 0, 30, .inl (fun _ => iI 0))), (a3, .inl (d.2 0, 30, .inl (fun _ => iI 0)))]) ok hin kn1_X1_init tyX1 tyX1_ok nmX1 0 rfl rfl 2 (by decide) kf_18_X1_init rfl rfl rfl (tyX1_ok 2 (by decide)) rfl rfl (Nat.le_of_ble_eq_true rfl) dX1_init_25 rfl ?_
  exact y_ret ok fin (fun j => ([a1, a2, a3] : List Nat).getD j 0) ⟨Nat.le_of_ble_eq_true rfl, Nat.le_of_ble_eq_true rfl⟩ dX1_init_28 rfl
theorem ko_3_X2_init : Cond.methodLink RX2 3 objectInit ∈ wsX2_init := by decide +kernel
theorem koi_X2_init : Cond.instanceMethod objectInit ∈ wsX2_init := by decide +kernel
theorem koc_X2_init : Cond.code objectInit ⟨#[0xb1]⟩ 1 none ∈ wsX2_init := by decide +kernel
theorem ka_int_X2_init : Cond.arrayClass .int ∈ wsX2_init := by decide +kernel
theorem kf_9_X2_init : Cond.fieldLink RX2 9 "StormRunoff$Division" "left" "[I" ∈ wsX2_init := by decide +kernel
theorem kn2_X2_init : ∀ w ∈ wsX20, w ∈ wsX2_init := by decide +kernel
theorem kf_15_X2_init : Cond.fieldLink RX2 15 "StormRunoff$Division" "rain" "[I" ∈ wsX2_init := by decide +kernel
theorem kf_18_X2_init : Cond.fieldLink RX2 18 "StormRunoff$Division" "answer" "[I" ∈ wsX2_init := by decide +kernel
def wC2 (d : Gc) (h0 : Nat) (q : Nat → Nat) : va_W := [(h0, .inr (2, [.ref (q 0), .ref (q 1), .ref (q 2)])), ((q 0), .inl (d.2 0, 12, .inl (fun _ => iI 0))), ((q 1), .inl (d.2 0, 8, .inl (fun _ => iI 0))), ((q 2), .inl (d.2 0, 5, .inl (fun _ => iI 0)))]
set_option maxRecDepth 100000 in
set_option maxHeartbeats 4000000 in
theorem cn_X2_init (l : Launch) (d : Gc) (h0 sz : Nat) : Cn l d yX2_init wsX2_init 1 12 3 25 h0 (.inr (2, [.null, .null, .null])) sz [] (wC2 d h0) := by
  refine Cn.of (cc := cX2_init) (nL := 1) (by decide) rfl rfl (Nat.le_of_ble_eq_true rfl) (fun z A hz ok hin fin => ?_)
  have ok : OkC z d A cX2_init 1 RX2 wsX2_init 1 12 3 25 := ok
  show Y z d A 1 [(h0, .inr (2, [.null, .null, .null]))] [(0, .ref h0)] [] 0 0 0
  refine y_aload_n ok 0 dX2_init_0 rfl rfl ?_
  refine y_obj ok ko_3_X2_init koi_X2_init koc_X2_init ⟨Nat.le_of_ble_eq_true rfl, Nat.le_of_ble_eq_true rfl⟩ dX2_init_1 ?_
  refine y_aload_n ok 0 dX2_init_4 rfl rfl ?_
  refine y_bipush (n := 12) ok rfl dX2_init_5 ?_
  refine y_newi (N' := 12) ok ka_int_X2_init (by decide) rfl ⟨Nat.le_of_ble_eq_true rfl, Nat.le_of_ble_eq_true rfl⟩ dX2_init_7 (fun a1 => ?_)
  refine y_ws (ws' := [(h0, .inr (2, [.null, .null, .null])), (a1, .inl (d.2 0, 12, .inl (fun _ => iI 0)))]) rfl ?_
  refine y_putF (C := RX2) (T := TX2) (N := 3) (ci := 2) (ty := tyX2 0) (v := .ref a1) (ws' := [(h0, .inr (2, [.ref a1, .null, .null])), (a1, .inl (d.2 0, 12, .inl (fun _ => iI 0)))]) ok hin kn2_X2_init tyX2 tyX2_ok nmX2 0 rfl rfl 0 (by decide) kf_9_X2_init rfl rfl rfl (tyX2_ok 0 (by decide)) rfl rfl (Nat.le_of_ble_eq_true rfl) dX2_init_9 rfl ?_
  refine y_aload_n ok 0 dX2_init_12 rfl rfl ?_
  refine y_bipush (n := 8) ok rfl dX2_init_13 ?_
  refine y_newi (N' := 8) ok ka_int_X2_init (by decide) rfl ⟨Nat.le_of_ble_eq_true rfl, Nat.le_of_ble_eq_true rfl⟩ dX2_init_15 (fun a2 => ?_)
  refine y_ws (ws' := [(h0, .inr (2, [.ref a1, .null, .null])), (a1, .inl (d.2 0, 12, .inl (fun _ => iI 0))), (a2, .inl (d.2 0, 8, .inl (fun _ => iI 0)))]) rfl ?_
  refine y_putF (C := RX2) (T := TX2) (N := 3) (ci := 2) (ty := tyX2 1) (v := .ref a2) (ws' := [(h0, .inr (2, [.ref a1, .ref a2, .null])), (a1, .inl (d.2 0, 12, .inl (fun _ => iI 0))), (a2, .inl (d.2 0, 8, .inl (fun _ => iI 0)))]) ok hin kn2_X2_init tyX2 tyX2_ok nmX2 0 rfl rfl 1 (by decide) kf_15_X2_init rfl rfl rfl (tyX2_ok 1 (by decide)) rfl rfl (Nat.le_of_ble_eq_true rfl) dX2_init_17 rfl ?_
  refine y_aload_n ok 0 dX2_init_20 rfl rfl ?_
  refine y_iconst (n := 5) ok dX2_init_21 ?_
  refine y_newi (N' := 5) ok ka_int_X2_init (by decide) rfl ⟨Nat.le_of_ble_eq_true rfl, Nat.le_of_ble_eq_true rfl⟩ dX2_init_22 (fun a3 => ?_)
  refine y_ws (ws' := [(h0, .inr (2, [.ref a1, .ref a2, .null])), (a1, .inl (d.2 0, 12, .inl (fun _ => iI 0))), (a2, .inl (d.2 0, 8, .inl (fun _ => iI 0))), (a3, .inl (d.2 0, 5, .inl (fun _ => iI 0)))]) rfl ?_
  refine y_putF (C := RX2) (T := TX2) (N := 3) (ci := 2) (ty := tyX2 2) (v := .ref a3) (ws' := [(h0, .inr (2, [.ref a1, .ref a2, .ref a3])), (a1, .inl (d.2 0, 12, .inl (fun _ => iI 0))), (a2, .inl (d.2 0, 8, .inl (fun _ => iI 0))), (a3, .inl (d.2 0, 5, .inl (fun _ => iI 0)))]) ok hin kn2_X2_init tyX2 tyX2_ok nmX2 0 rfl rfl 2 (by decide) kf_18_X2_init rfl rfl rfl (tyX2_ok 2 (by decide)) rfl rfl (Nat.le_of_ble_eq_true rfl) dX2_init_24 rfl ?_
  exact y_ret ok fin (fun j => ([a1, a2, a3] : List Nat).getD j 0) ⟨Nat.le_of_ble_eq_true rfl, Nat.le_of_ble_eq_true rfl⟩ dX2_init_27 rfl
theorem ko_3_X3_init : Cond.methodLink RX3 3 objectInit ∈ wsX3_init := by decide +kernel
theorem koi_X3_init : Cond.instanceMethod objectInit ∈ wsX3_init := by decide +kernel
theorem koc_X3_init : Cond.code objectInit ⟨#[0xb1]⟩ 1 none ∈ wsX3_init := by decide +kernel
theorem ka_int_X3_init : Cond.arrayClass .int ∈ wsX3_init := by decide +kernel
theorem kf_9_X3_init : Cond.fieldLink RX3 9 "StormRunoff$Nearness" "rain" "[I" ∈ wsX3_init := by decide +kernel
theorem kn3_X3_init : ∀ w ∈ wsX30, w ∈ wsX3_init := by decide +kernel
theorem kf_15_X3_init : Cond.fieldLink RX3 15 "StormRunoff$Nearness" "best" "[I" ∈ wsX3_init := by decide +kernel
theorem kf_18_X3_init : Cond.fieldLink RX3 18 "StormRunoff$Nearness" "flow" "[I" ∈ wsX3_init := by decide +kernel
theorem kf_21_X3_init : Cond.fieldLink RX3 21 "StormRunoff$Nearness" "least" "I" ∈ wsX3_init := by decide +kernel
def wC3 (d : Gc) (h0 : Nat) (q : Nat → Nat) : va_W := [(h0, .inr (3, [.ref (q 0), .ref (q 1), .ref (q 2), iv 0])), ((q 0), .inl (d.2 0, 3, .inl (fun _ => iI 0))), ((q 1), .inl (d.2 0, 3, .inl (fun _ => iI 0))), ((q 2), .inl (d.2 0, 12, .inl (fun _ => iI 0)))]
set_option maxRecDepth 100000 in
set_option maxHeartbeats 4000000 in
theorem cn_X3_init (l : Launch) (d : Gc) (h0 sz : Nat) : Cn l d yX3_init wsX3_init 1 12 3 18 h0 (.inr (3, [.null, .null, .null, iv 0])) sz [] (wC3 d h0) := by
  refine Cn.of (cc := cX3_init) (nL := 1) (by decide) rfl rfl (Nat.le_of_ble_eq_true rfl) (fun z A hz ok hin fin => ?_)
  have ok : OkC z d A cX3_init 1 RX3 wsX3_init 1 12 3 18 := ok
  show Y z d A 1 [(h0, .inr (3, [.null, .null, .null, iv 0]))] [(0, .ref h0)] [] 0 0 0
  refine y_aload_n ok 0 dX3_init_0 rfl rfl ?_
  refine y_obj ok ko_3_X3_init koi_X3_init koc_X3_init ⟨Nat.le_of_ble_eq_true rfl, Nat.le_of_ble_eq_true rfl⟩ dX3_init_1 ?_
  refine y_aload_n ok 0 dX3_init_4 rfl rfl ?_
  refine y_iconst (n := 3) ok dX3_init_5 ?_
  refine y_newi (N' := 3) ok ka_int_X3_init (by decide) rfl ⟨Nat.le_of_ble_eq_true rfl, Nat.le_of_ble_eq_true rfl⟩ dX3_init_6 (fun a1 => ?_)
  refine y_ws (ws' := [(h0, .inr (3, [.null, .null, .null, iv 0])), (a1, .inl (d.2 0, 3, .inl (fun _ => iI 0)))]) rfl ?_
  refine y_putF (C := RX3) (T := TX3) (N := 4) (ci := 3) (ty := tyX3 0) (v := .ref a1) (ws' := [(h0, .inr (3, [.ref a1, .null, .null, iv 0])), (a1, .inl (d.2 0, 3, .inl (fun _ => iI 0)))]) ok hin kn3_X3_init tyX3 tyX3_ok nmX3 0 rfl rfl 0 (by decide) kf_9_X3_init rfl rfl rfl (tyX3_ok 0 (by decide)) rfl rfl (Nat.le_of_ble_eq_true rfl) dX3_init_8 rfl ?_
  refine y_aload_n ok 0 dX3_init_11 rfl rfl ?_
  refine y_iconst (n := 3) ok dX3_init_12 ?_
  refine y_newi (N' := 3) ok ka_int_X3_init (by decide) rfl ⟨Nat.le_of_ble_eq_true rfl, Nat.le_of_ble_eq_true rfl⟩ dX3_init_13 (fun a2 => ?_)
  refine y_ws (ws' := [(h0, .inr (3, [.ref a1, .null, .null, iv 0])), (a1, .inl (d.2 0, 3, .inl (fun _ => iI 0))), (a2, .inl (d.2 0, 3, .inl (fun _ => iI 0)))]) rfl ?_
  refine y_putF (C := RX3) (T := TX3) (N := 4) (ci := 3) (ty := tyX3 1) (v := .ref a2) (ws' := [(h0, .inr (3, [.ref a1, .ref a2, .null, iv 0])), (a1, .inl (d.2 0, 3, .inl (fun _ => iI 0))), (a2, .inl (d.2 0, 3, .inl (fun _ => iI 0)))]) ok hin kn3_X3_init tyX3 tyX3_ok nmX3 0 rfl rfl 1 (by decide) kf_15_X3_init rfl rfl rfl (tyX3_ok 1 (by decide)) rfl rfl (Nat.le_of_ble_eq_true rfl) dX3_init_15 rfl ?_
  refine y_aload_n ok 0 dX3_init_18 rfl rfl ?_
  refine y_bipush (n := 12) ok rfl dX3_init_19 ?_
  refine y_newi (N' := 12) ok ka_int_X3_init (by decide) rfl ⟨Nat.le_of_ble_eq_true rfl, Nat.le_of_ble_eq_true rfl⟩ dX3_init_21 (fun a3 => ?_)
  refine y_ws (ws' := [(h0, .inr (3, [.ref a1, .ref a2, .null, iv 0])), (a1, .inl (d.2 0, 3, .inl (fun _ => iI 0))), (a2, .inl (d.2 0, 3, .inl (fun _ => iI 0))), (a3, .inl (d.2 0, 12, .inl (fun _ => iI 0)))]) rfl ?_
  refine y_putF (C := RX3) (T := TX3) (N := 4) (ci := 3) (ty := tyX3 2) (v := .ref a3) (ws' := [(h0, .inr (3, [.ref a1, .ref a2, .ref a3, iv 0])), (a1, .inl (d.2 0, 3, .inl (fun _ => iI 0))), (a2, .inl (d.2 0, 3, .inl (fun _ => iI 0))), (a3, .inl (d.2 0, 12, .inl (fun _ => iI 0)))]) ok hin kn3_X3_init tyX3 tyX3_ok nmX3 0 rfl rfl 2 (by decide) kf_18_X3_init rfl rfl rfl (tyX3_ok 2 (by decide)) rfl rfl (Nat.le_of_ble_eq_true rfl) dX3_init_23 rfl ?_
  refine y_aload_n ok 0 dX3_init_26 rfl rfl ?_
  refine y_iconst (n := 0) ok dX3_init_27 ?_
  refine y_put (C := RX3) (T := TX3) (N := 4) (ci := 3) (ty := tyX3 3) (v := iv 0) (ws' := [(h0, .inr (3, [.ref a1, .ref a2, .ref a3, iv 0])), (a1, .inl (d.2 0, 3, .inl (fun _ => iI 0))), (a2, .inl (d.2 0, 3, .inl (fun _ => iI 0))), (a3, .inl (d.2 0, 12, .inl (fun _ => iI 0)))]) ok kn3_X3_init tyX3 tyX3_ok nmX3 0 rfl rfl 3 (by decide) kf_21_X3_init rfl rfl (tyX3_ok 3 (by decide)) rfl rfl (Nat.le_of_ble_eq_true rfl) dX3_init_28 rfl ?_
  exact y_ret ok fin (fun j => ([a1, a2, a3] : List Nat).getD j 0) ⟨Nat.le_of_ble_eq_true rfl, Nat.le_of_ble_eq_true rfl⟩ dX3_init_31 rfl
theorem ko_3_X4_init : Cond.methodLink RX4 3 objectInit ∈ wsX4_init := by decide +kernel
theorem koi_X4_init : Cond.instanceMethod objectInit ∈ wsX4_init := by decide +kernel
theorem koc_X4_init : Cond.code objectInit ⟨#[0xb1]⟩ 1 none ∈ wsX4_init := by decide +kernel
theorem ka_int_X4_init : Cond.arrayClass .int ∈ wsX4_init := by decide +kernel
theorem kf_9_X4_init : Cond.fieldLink RX4 9 "StormRunoff$Rows" "first" "[I" ∈ wsX4_init := by decide +kernel
theorem kn4_X4_init : ∀ w ∈ wsX40, w ∈ wsX4_init := by decide +kernel
theorem kf_15_X4_init : Cond.fieldLink RX4 15 "StormRunoff$Rows" "second" "[I" ∈ wsX4_init := by decide +kernel
theorem kf_18_X4_init : Cond.fieldLink RX4 18 "StormRunoff$Rows" "many" "I" ∈ wsX4_init := by decide +kernel
theorem kf_22_X4_init : Cond.fieldLink RX4 22 "StormRunoff$Rows" "limit" "I" ∈ wsX4_init := by decide +kernel
def wC4 (d : Gc) (k : Int) (h0 : Nat) (q : Nat → Nat) : va_W := [(h0, .inr (4, [.ref (q 0), .ref (q 1), iv k, iv 0])), ((q 0), .inl (d.2 0, 8, .inl (fun _ => iI 0))), ((q 1), .inl (d.2 0, 8, .inl (fun _ => iI 0)))]
set_option maxRecDepth 100000 in
set_option maxHeartbeats 4000000 in
theorem cn_X4_init (l : Launch) (d : Gc) (k : Int) (h0 sz : Nat) : Cn l d yX4_init wsX4_init 1 12 2 16 h0 (.inr (4, [.null, .null, iv 0, iv 0])) sz [iv k] (wC4 d k h0) := by
  refine Cn.of (cc := cX4_init) (nL := 2) (by decide) rfl rfl (Nat.le_of_ble_eq_true rfl) (fun z A hz ok hin fin => ?_)
  have ok : OkC z d A cX4_init 2 RX4 wsX4_init 1 12 2 16 := ok
  show Y z d A 2 [(h0, .inr (4, [.null, .null, iv 0, iv 0]))] [(0, .ref h0), (1, iv k)] [] 0 0 0
  refine y_aload_n ok 0 dX4_init_0 rfl rfl ?_
  refine y_obj ok ko_3_X4_init koi_X4_init koc_X4_init ⟨Nat.le_of_ble_eq_true rfl, Nat.le_of_ble_eq_true rfl⟩ dX4_init_1 ?_
  refine y_aload_n ok 0 dX4_init_4 rfl rfl ?_
  refine y_bipush (n := 8) ok rfl dX4_init_5 ?_
  refine y_newi (N' := 8) ok ka_int_X4_init (by decide) rfl ⟨Nat.le_of_ble_eq_true rfl, Nat.le_of_ble_eq_true rfl⟩ dX4_init_7 (fun a1 => ?_)
  refine y_ws (ws' := [(h0, .inr (4, [.null, .null, iv 0, iv 0])), (a1, .inl (d.2 0, 8, .inl (fun _ => iI 0)))]) rfl ?_
  refine y_putF (C := RX4) (T := TX4) (N := 4) (ci := 4) (ty := tyX4 0) (v := .ref a1) (ws' := [(h0, .inr (4, [.ref a1, .null, iv 0, iv 0])), (a1, .inl (d.2 0, 8, .inl (fun _ => iI 0)))]) ok hin kn4_X4_init tyX4 tyX4_ok nmX4 0 rfl rfl 0 (by decide) kf_9_X4_init rfl rfl rfl (tyX4_ok 0 (by decide)) rfl rfl (Nat.le_of_ble_eq_true rfl) dX4_init_9 rfl ?_
  refine y_aload_n ok 0 dX4_init_12 rfl rfl ?_
  refine y_bipush (n := 8) ok rfl dX4_init_13 ?_
  refine y_newi (N' := 8) ok ka_int_X4_init (by decide) rfl ⟨Nat.le_of_ble_eq_true rfl, Nat.le_of_ble_eq_true rfl⟩ dX4_init_15 (fun a2 => ?_)
  refine y_ws (ws' := [(h0, .inr (4, [.ref a1, .null, iv 0, iv 0])), (a1, .inl (d.2 0, 8, .inl (fun _ => iI 0))), (a2, .inl (d.2 0, 8, .inl (fun _ => iI 0)))]) rfl ?_
  refine y_putF (C := RX4) (T := TX4) (N := 4) (ci := 4) (ty := tyX4 1) (v := .ref a2) (ws' := [(h0, .inr (4, [.ref a1, .ref a2, iv 0, iv 0])), (a1, .inl (d.2 0, 8, .inl (fun _ => iI 0))), (a2, .inl (d.2 0, 8, .inl (fun _ => iI 0)))]) ok hin kn4_X4_init tyX4 tyX4_ok nmX4 0 rfl rfl 1 (by decide) kf_15_X4_init rfl rfl rfl (tyX4_ok 1 (by decide)) rfl rfl (Nat.le_of_ble_eq_true rfl) dX4_init_17 rfl ?_
  refine y_aload_n ok 0 dX4_init_20 rfl rfl ?_
  refine y_iconst (n := 0) ok dX4_init_21 ?_
  refine y_put (C := RX4) (T := TX4) (N := 4) (ci := 4) (ty := tyX4 3) (v := iv 0) (ws' := [(h0, .inr (4, [.ref a1, .ref a2, iv 0, iv 0])), (a1, .inl (d.2 0, 8, .inl (fun _ => iI 0))), (a2, .inl (d.2 0, 8, .inl (fun _ => iI 0)))]) ok kn4_X4_init tyX4 tyX4_ok nmX4 0 rfl rfl 3 (by decide) kf_18_X4_init rfl rfl (tyX4_ok 3 (by decide)) rfl rfl (Nat.le_of_ble_eq_true rfl) dX4_init_22 rfl ?_
  refine y_aload_n ok 0 dX4_init_25 rfl rfl ?_
  refine y_iload_n ok 1 dX4_init_26 rfl rfl ?_
  refine y_putF (C := RX4) (T := TX4) (N := 4) (ci := 4) (ty := tyX4 2) (v := iv k) (ws' := [(h0, .inr (4, [.ref a1, .ref a2, iv k, iv 0])), (a1, .inl (d.2 0, 8, .inl (fun _ => iI 0))), (a2, .inl (d.2 0, 8, .inl (fun _ => iI 0)))]) ok hin kn4_X4_init tyX4 tyX4_ok nmX4 0 rfl rfl 2 (by decide) kf_22_X4_init rfl rfl rfl (tyX4_ok 2 (by decide)) rfl rfl (Nat.le_of_ble_eq_true rfl) dX4_init_27 rfl ?_
  exact y_ret ok fin (fun j => ([a1, a2] : List Nat).getD j 0) ⟨Nat.le_of_ble_eq_true rfl, Nat.le_of_ble_eq_true rfl⟩ dX4_init_30 rfl
theorem ko_3_X5_init : Cond.methodLink RX5 3 objectInit ∈ wsX5_init := by decide +kernel
theorem koi_X5_init : Cond.instanceMethod objectInit ∈ wsX5_init := by decide +kernel
theorem koc_X5_init : Cond.code objectInit ⟨#[0xb1]⟩ 1 none ∈ wsX5_init := by decide +kernel
theorem ka_int_X5_init : Cond.arrayClass .int ∈ wsX5_init := by decide +kernel
theorem kf_9_X5_init : Cond.fieldLink RX5 9 "StormRunoff$SetUp" "signs" "[I" ∈ wsX5_init := by decide +kernel
theorem kn5_X5_init : ∀ w ∈ wsX50, w ∈ wsX5_init := by decide +kernel
theorem kf_15_X5_init : Cond.fieldLink RX5 15 "StormRunoff$SetUp" "length" "I" ∈ wsX5_init := by decide +kernel
theorem kf_19_X5_init : Cond.fieldLink RX5 19 "StormRunoff$SetUp" "at" "I" ∈ wsX5_init := by decide +kernel
theorem kf_22_X5_init : Cond.fieldLink RX5 22 "StormRunoff$SetUp" "letter" "I" ∈ wsX5_init := by decide +kernel
theorem kf_25_X5_init : Cond.fieldLink RX5 25 "StormRunoff$SetUp" "numbers" "[I" ∈ wsX5_init := by decide +kernel
theorem kf_28_X5_init : Cond.fieldLink RX5 28 "StormRunoff$SetUp" "many" "I" ∈ wsX5_init := by decide +kernel
def wC5 (d : Gc) (h0 : Nat) (q : Nat → Nat) : va_W := [(h0, .inr (5, [.ref (q 0), iv 0, iv 0, iv (-1), .ref (q 1), iv 0])), ((q 0), .inl (d.2 0, 100, .inl (fun _ => iI 0))), ((q 1), .inl (d.2 0, 12, .inl (fun _ => iI 0)))]
set_option maxRecDepth 100000 in
set_option maxHeartbeats 4000000 in
theorem cn_X5_init (l : Launch) (d : Gc) (h0 sz : Nat) : Cn l d yX5_init wsX5_init 1 12 2 112 h0 (.inr (5, [.null, iv 0, iv 0, iv 0, .null, iv 0])) sz [] (wC5 d h0) := by
  refine Cn.of (cc := cX5_init) (nL := 1) (by decide) rfl rfl (Nat.le_of_ble_eq_true rfl) (fun z A hz ok hin fin => ?_)
  have ok : OkC z d A cX5_init 1 RX5 wsX5_init 1 12 2 112 := ok
  show Y z d A 1 [(h0, .inr (5, [.null, iv 0, iv 0, iv 0, .null, iv 0]))] [(0, .ref h0)] [] 0 0 0
  refine y_aload_n ok 0 dX5_init_0 rfl rfl ?_
  refine y_obj ok ko_3_X5_init koi_X5_init koc_X5_init ⟨Nat.le_of_ble_eq_true rfl, Nat.le_of_ble_eq_true rfl⟩ dX5_init_1 ?_
  refine y_aload_n ok 0 dX5_init_4 rfl rfl ?_
  refine y_bipush (n := 100) ok rfl dX5_init_5 ?_
  refine y_newi (N' := 100) ok ka_int_X5_init (by decide) rfl ⟨Nat.le_of_ble_eq_true rfl, Nat.le_of_ble_eq_true rfl⟩ dX5_init_7 (fun a1 => ?_)
  refine y_ws (ws' := [(h0, .inr (5, [.null, iv 0, iv 0, iv 0, .null, iv 0])), (a1, .inl (d.2 0, 100, .inl (fun _ => iI 0)))]) rfl ?_
  refine y_putF (C := RX5) (T := TX5) (N := 6) (ci := 5) (ty := tyX5 0) (v := .ref a1) (ws' := [(h0, .inr (5, [.ref a1, iv 0, iv 0, iv 0, .null, iv 0])), (a1, .inl (d.2 0, 100, .inl (fun _ => iI 0)))]) ok hin kn5_X5_init tyX5 tyX5_ok nmX5 0 rfl rfl 0 (by decide) kf_9_X5_init rfl rfl rfl (tyX5_ok 0 (by decide)) rfl rfl (Nat.le_of_ble_eq_true rfl) dX5_init_9 rfl ?_
  refine y_aload_n ok 0 dX5_init_12 rfl rfl ?_
  refine y_iconst (n := 0) ok dX5_init_13 ?_
  refine y_put (C := RX5) (T := TX5) (N := 6) (ci := 5) (ty := tyX5 1) (v := iv 0) (ws' := [(h0, .inr (5, [.ref a1, iv 0, iv 0, iv 0, .null, iv 0])), (a1, .inl (d.2 0, 100, .inl (fun _ => iI 0)))]) ok kn5_X5_init tyX5 tyX5_ok nmX5 0 rfl rfl 1 (by decide) kf_15_X5_init rfl rfl (tyX5_ok 1 (by decide)) rfl rfl (Nat.le_of_ble_eq_true rfl) dX5_init_14 rfl ?_
  refine y_aload_n ok 0 dX5_init_17 rfl rfl ?_
  refine y_iconst (n := 0) ok dX5_init_18 ?_
  refine y_put (C := RX5) (T := TX5) (N := 6) (ci := 5) (ty := tyX5 2) (v := iv 0) (ws' := [(h0, .inr (5, [.ref a1, iv 0, iv 0, iv 0, .null, iv 0])), (a1, .inl (d.2 0, 100, .inl (fun _ => iI 0)))]) ok kn5_X5_init tyX5 tyX5_ok nmX5 0 rfl rfl 2 (by decide) kf_19_X5_init rfl rfl (tyX5_ok 2 (by decide)) rfl rfl (Nat.le_of_ble_eq_true rfl) dX5_init_19 rfl ?_
  refine y_aload_n ok 0 dX5_init_22 rfl rfl ?_
  refine y_iconst (n := -1) ok dX5_init_23 ?_
  refine y_put (C := RX5) (T := TX5) (N := 6) (ci := 5) (ty := tyX5 3) (v := iv (-1)) (ws' := [(h0, .inr (5, [.ref a1, iv 0, iv 0, iv (-1), .null, iv 0])), (a1, .inl (d.2 0, 100, .inl (fun _ => iI 0)))]) ok kn5_X5_init tyX5 tyX5_ok nmX5 0 rfl rfl 3 (by decide) kf_22_X5_init rfl rfl (tyX5_ok 3 (by decide)) rfl rfl (Nat.le_of_ble_eq_true rfl) dX5_init_24 rfl ?_
  refine y_aload_n ok 0 dX5_init_27 rfl rfl ?_
  refine y_bipush (n := 12) ok rfl dX5_init_28 ?_
  refine y_newi (N' := 12) ok ka_int_X5_init (by decide) rfl ⟨Nat.le_of_ble_eq_true rfl, Nat.le_of_ble_eq_true rfl⟩ dX5_init_30 (fun a2 => ?_)
  refine y_ws (ws' := [(h0, .inr (5, [.ref a1, iv 0, iv 0, iv (-1), .null, iv 0])), (a1, .inl (d.2 0, 100, .inl (fun _ => iI 0))), (a2, .inl (d.2 0, 12, .inl (fun _ => iI 0)))]) rfl ?_
  refine y_putF (C := RX5) (T := TX5) (N := 6) (ci := 5) (ty := tyX5 4) (v := .ref a2) (ws' := [(h0, .inr (5, [.ref a1, iv 0, iv 0, iv (-1), .ref a2, iv 0])), (a1, .inl (d.2 0, 100, .inl (fun _ => iI 0))), (a2, .inl (d.2 0, 12, .inl (fun _ => iI 0)))]) ok hin kn5_X5_init tyX5 tyX5_ok nmX5 0 rfl rfl 4 (by decide) kf_25_X5_init rfl rfl rfl (tyX5_ok 4 (by decide)) rfl rfl (Nat.le_of_ble_eq_true rfl) dX5_init_32 rfl ?_
  refine y_aload_n ok 0 dX5_init_35 rfl rfl ?_
  refine y_iconst (n := 0) ok dX5_init_36 ?_
  refine y_put (C := RX5) (T := TX5) (N := 6) (ci := 5) (ty := tyX5 5) (v := iv 0) (ws' := [(h0, .inr (5, [.ref a1, iv 0, iv 0, iv (-1), .ref a2, iv 0])), (a1, .inl (d.2 0, 100, .inl (fun _ => iI 0))), (a2, .inl (d.2 0, 12, .inl (fun _ => iI 0)))]) ok kn5_X5_init tyX5 tyX5_ok nmX5 0 rfl rfl 5 (by decide) kf_28_X5_init rfl rfl (tyX5_ok 5 (by decide)) rfl rfl (Nat.le_of_ble_eq_true rfl) dX5_init_37 rfl ?_
  exact y_ret ok fin (fun j => ([a1, a2] : List Nat).getD j 0) ⟨Nat.le_of_ble_eq_true rfl, Nat.le_of_ble_eq_true rfl⟩ dX5_init_40 rfl
theorem ko_3_X8_init : Cond.methodLink RX8 3 objectInit ∈ wsX8_init := by decide +kernel
theorem koi_X8_init : Cond.instanceMethod objectInit ∈ wsX8_init := by decide +kernel
theorem koc_X8_init : Cond.code objectInit ⟨#[0xb1]⟩ 1 none ∈ wsX8_init := by decide +kernel
theorem ka_long_X8_init : Cond.arrayClass .long ∈ wsX8_init := by decide +kernel
theorem kf_9_X8_init : Cond.fieldLink RX8 9 "StormRunoff$Tape" "items" "[J" ∈ wsX8_init := by decide +kernel
theorem kn8_X8_init : ∀ w ∈ wsX80, w ∈ wsX8_init := by decide +kernel
theorem kf_15_X8_init : Cond.fieldLink RX8 15 "StormRunoff$Tape" "sort" "I" ∈ wsX8_init := by decide +kernel
theorem kf_19_X8_init : Cond.fieldLink RX8 19 "StormRunoff$Tape" "size" "I" ∈ wsX8_init := by decide +kernel
def wC8 (d : Gc) (h0 : Nat) (q : Nat → Nat) : va_W := [(h0, .inr (8, [.ref (q 0), iv (-1), iv 0])), ((q 0), .inl (d.2 1, 60, .inr (.inl (fun _ => lI 0))))]
set_option maxRecDepth 100000 in
set_option maxHeartbeats 4000000 in
theorem cn_X8_init (l : Launch) (d : Gc) (h0 sz : Nat) : Cn l d yX8_init wsX8_init 1 12 1 60 h0 (.inr (8, [.null, iv 0, iv 0])) sz [] (wC8 d h0) := by
  refine Cn.of (cc := cX8_init) (nL := 1) (by decide) rfl rfl (Nat.le_of_ble_eq_true rfl) (fun z A hz ok hin fin => ?_)
  have ok : OkC z d A cX8_init 1 RX8 wsX8_init 1 12 1 60 := ok
  show Y z d A 1 [(h0, .inr (8, [.null, iv 0, iv 0]))] [(0, .ref h0)] [] 0 0 0
  refine y_aload_n ok 0 dX8_init_0 rfl rfl ?_
  refine y_obj ok ko_3_X8_init koi_X8_init koc_X8_init ⟨Nat.le_of_ble_eq_true rfl, Nat.le_of_ble_eq_true rfl⟩ dX8_init_1 ?_
  refine y_aload_n ok 0 dX8_init_4 rfl rfl ?_
  refine y_bipush (n := 60) ok rfl dX8_init_5 ?_
  refine y_newl (N' := 60) ok ka_long_X8_init (by decide) rfl ⟨Nat.le_of_ble_eq_true rfl, Nat.le_of_ble_eq_true rfl⟩ dX8_init_7 (fun a1 => ?_)
  refine y_ws (ws' := [(h0, .inr (8, [.null, iv 0, iv 0])), (a1, .inl (d.2 1, 60, .inr (.inl (fun _ => lI 0))))]) rfl ?_
  refine y_putF (C := RX8) (T := TX8) (N := 3) (ci := 8) (ty := tyX8 0) (v := .ref a1) (ws' := [(h0, .inr (8, [.ref a1, iv 0, iv 0])), (a1, .inl (d.2 1, 60, .inr (.inl (fun _ => lI 0))))]) ok hin kn8_X8_init tyX8 tyX8_ok nmX8 0 rfl rfl 0 (by decide) kf_9_X8_init rfl rfl rfl (tyX8_ok 0 (by decide)) rfl rfl (Nat.le_of_ble_eq_true rfl) dX8_init_9 rfl ?_
  refine y_aload_n ok 0 dX8_init_12 rfl rfl ?_
  refine y_iconst (n := -1) ok dX8_init_13 ?_
  refine y_put (C := RX8) (T := TX8) (N := 3) (ci := 8) (ty := tyX8 1) (v := iv (-1)) (ws' := [(h0, .inr (8, [.ref a1, iv (-1), iv 0])), (a1, .inl (d.2 1, 60, .inr (.inl (fun _ => lI 0))))]) ok kn8_X8_init tyX8 tyX8_ok nmX8 0 rfl rfl 1 (by decide) kf_15_X8_init rfl rfl (tyX8_ok 1 (by decide)) rfl rfl (Nat.le_of_ble_eq_true rfl) dX8_init_14 rfl ?_
  refine y_aload_n ok 0 dX8_init_17 rfl rfl ?_
  refine y_iconst (n := 0) ok dX8_init_18 ?_
  refine y_put (C := RX8) (T := TX8) (N := 3) (ci := 8) (ty := tyX8 2) (v := iv 0) (ws' := [(h0, .inr (8, [.ref a1, iv (-1), iv 0])), (a1, .inl (d.2 1, 60, .inr (.inl (fun _ => lI 0))))]) ok kn8_X8_init tyX8 tyX8_ok nmX8 0 rfl rfl 2 (by decide) kf_19_X8_init rfl rfl (tyX8_ok 2 (by decide)) rfl rfl (Nat.le_of_ble_eq_true rfl) dX8_init_19 rfl ?_
  exact y_ret ok fin (fun j => ([a1] : List Nat).getD j 0) ⟨Nat.le_of_ble_eq_true rfl, Nat.le_of_ble_eq_true rfl⟩ dX8_init_22 rfl
