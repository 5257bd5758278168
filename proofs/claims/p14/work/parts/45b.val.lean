noncomputable def kc0 : (Nat → Int32) := (fX11_put 1 16777215 (fun _ => 0 : Nat → Int32))
noncomputable def km0 : (Int32 × (Nat → Int32)) := (fX12_put 1 16777215 0 (fun _ => 0 : Nat → Int32))
noncomputable def kc1 : (Nat → Int32) := (fX11_key 1 1 (fun _ => 0 : Nat → Int32)).2
noncomputable def ko1 : Nat → Int64 := (vp_updL (fun _ => 0) (0 : Int32).toNatClampNeg (((fX11_key 1 1 (fun _ => 0 : Nat → Int32)).1 : Int32).toInt64))
noncomputable def km1 : (Int32 × (Nat → Int32)) := (fX12_key 1 1 km0.1 (fun _ => 0 : Nat → Int32)).2
noncomputable def kc2 : Int64 := (fX11_load (((2097152 : Int32).toInt64 <<< ((32 : Int32).toInt64 &&& 63)) ||| ((512 : Int32).toInt64 &&& 4294967295)) 0)
noncomputable def km2 : (Int32 × Int32 × Int32 × Int32 × Int32 × Int32 × Int32 × Int32 × Int32 × Int32) := (fX12_load (((2097152 : Int32).toInt64 <<< ((32 : Int32).toInt64 &&& 63)) ||| ((512 : Int32).toInt64 &&& 4294967295)) km1.1 0 0 0 0 0 0 0 0 0)
noncomputable def kc3 : (Nat → Int32) := (fX11_write 512 (((56577 : Int32).toInt64 <<< ((32 : Int32).toInt64 &&& 63)) ||| ((268437504 : Int32).toInt64 &&& 4294967295)) 6 (fun _ => 0 : Nat → Int32))
noncomputable def ekc3 : (Nat → Int32) := (efX11_write 512 (((56577 : Int32).toInt64 <<< ((32 : Int32).toInt64 &&& 63)) ||| ((268437504 : Int32).toInt64 &&& 4294967295)) 6 (fun _ => 0 : Nat → Int32))
set_option maxHeartbeats 4000000 in
set_option maxRecDepth 100000 in
theorem E_kc3 : kc3 = ekc3 := by
  delta kc3 ekc3
  rw [E_fX11_write]
noncomputable def km3 : (Int32 × (Nat → Int32)) := (fX12_write 512 (((56577 : Int32).toInt64 <<< ((32 : Int32).toInt64 &&& 63)) ||| ((268437504 : Int32).toInt64 &&& 4294967295)) 6 km2.1 (fun _ => 0 : Nat → Int32))
noncomputable def ekm3 : (Int32 × (Nat → Int32)) := (efX12_write 512 (((56577 : Int32).toInt64 <<< ((32 : Int32).toInt64 &&& 63)) ||| ((268437504 : Int32).toInt64 &&& 4294967295)) 6 km2.1 (fun _ => 0 : Nat → Int32))
set_option maxHeartbeats 4000000 in
set_option maxRecDepth 100000 in
theorem E_km3 : km3 = ekm3 := by
  delta km3 ekm3
  rw [E_fX12_write]
noncomputable def kc4 : (Int32 × Int32 × Int32 × Int32 × Int32 × Int32 × Int32 × Int32 × Int32 × Int32 × Int32 × Int32 × Int32 × Int32 × Int32 × Int32 × Int32 × Int64 × (Nat → Int32) × (Nat → Int32) × (Nat → Int32) × Int32 × (Nat → Int32) × Int32 × (Nat → Int32) × (Nat → Int32) × (Nat → Int32) × (Nat → Int32)) := (fX11_step 1 0 0 0 0 0 0 0 0 0 0 0 0 0 0 0 0 0 kc2 kc3 kc1 kc0 0 (fun _ => 0 : Nat → Int32) 0 (fun _ => 0 : Nat → Int32) (fun _ => 0 : Nat → Int32) (fun _ => 0 : Nat → Int32) (fun _ => 0 : Nat → Int32)).2
noncomputable def ekc4 : (Int32 × Int32 × Int32 × Int32 × Int32 × Int32 × Int32 × Int32 × Int32 × Int32 × Int32 × Int32 × Int32 × Int32 × Int32 × Int32 × Int32 × Int64 × (Nat → Int32) × (Nat → Int32) × (Nat → Int32) × Int32 × (Nat → Int32) × Int32 × (Nat → Int32) × (Nat → Int32) × (Nat → Int32) × (Nat → Int32)) := (efX11_step 1 0 0 0 0 0 0 0 0 0 0 0 0 0 0 0 0 0 kc2 ekc3 kc1 kc0 0 (fun _ => 0 : Nat → Int32) 0 (fun _ => 0 : Nat → Int32) (fun _ => 0 : Nat → Int32) (fun _ => 0 : Nat → Int32) (fun _ => 0 : Nat → Int32)).2
set_option maxHeartbeats 4000000 in
set_option maxRecDepth 100000 in
theorem E_kc4 : kc4 = ekc4 := by
  delta kc4 ekc4
  rw [E_fX11_step, E_kc3]
noncomputable def ko4 : Nat → Int64 := (vp_updL ko1 (0 : Int32).toNatClampNeg (((fX11_step 1 0 0 0 0 0 0 0 0 0 0 0 0 0 0 0 0 0 kc2 kc3 kc1 kc0 0 (fun _ => 0 : Nat → Int32) 0 (fun _ => 0 : Nat → Int32) (fun _ => 0 : Nat → Int32) (fun _ => 0 : Nat → Int32) (fun _ => 0 : Nat → Int32)).1 : Int32).toInt64))
noncomputable def eko4 : Nat → Int64 := (vp_updL ko1 (0 : Int32).toNatClampNeg (((efX11_step 1 0 0 0 0 0 0 0 0 0 0 0 0 0 0 0 0 0 kc2 ekc3 kc1 kc0 0 (fun _ => 0 : Nat → Int32) 0 (fun _ => 0 : Nat → Int32) (fun _ => 0 : Nat → Int32) (fun _ => 0 : Nat → Int32) (fun _ => 0 : Nat → Int32)).1 : Int32).toInt64))
set_option maxHeartbeats 4000000 in
set_option maxRecDepth 100000 in
theorem E_ko4 : ko4 = eko4 := by
  delta ko4 eko4
  rw [E_fX11_step, E_kc3]
noncomputable def km4 : (Int32 × Int32 × Int32 × Int32 × Int32 × Int32 × Int32 × Int32 × Int32 × Int32 × Int32 × Int32 × Int32 × Int32 × Int32 × Int32 × (Nat → Int32) × (Nat → Int32) × (Nat → Int32) × (Nat → Int32) × (Nat → Int32) × (Nat → Int32) × (Nat → Int32) × (Nat → Int32) × (Nat → Int32) × (Nat → Int32)) := (fX12_step 1 km3.1 km2.2.1 km2.2.2.1 km2.2.2.2.1 km2.2.2.2.2.1 km2.2.2.2.2.2.1 km2.2.2.2.2.2.2.1 km2.2.2.2.2.2.2.2.1 km2.2.2.2.2.2.2.2.2.1 km2.2.2.2.2.2.2.2.2.2 0 0 0 0 0 0 km3.2 km1.2 km0.2 (fun _ => 0 : Nat → Int32) (fun _ => 0 : Nat → Int32) (fun _ => 0 : Nat → Int32) (fun _ => 0 : Nat → Int32) (fun _ => 0 : Nat → Int32) (fun _ => 0 : Nat → Int32) (fun _ => 0 : Nat → Int32)).2
noncomputable def ekm4 : (Int32 × Int32 × Int32 × Int32 × Int32 × Int32 × Int32 × Int32 × Int32 × Int32 × Int32 × Int32 × Int32 × Int32 × Int32 × Int32 × (Nat → Int32) × (Nat → Int32) × (Nat → Int32) × (Nat → Int32) × (Nat → Int32) × (Nat → Int32) × (Nat → Int32) × (Nat → Int32) × (Nat → Int32) × (Nat → Int32)) := (efX12_step 1 ekm3.1 km2.2.1 km2.2.2.1 km2.2.2.2.1 km2.2.2.2.2.1 km2.2.2.2.2.2.1 km2.2.2.2.2.2.2.1 km2.2.2.2.2.2.2.2.1 km2.2.2.2.2.2.2.2.2.1 km2.2.2.2.2.2.2.2.2.2 0 0 0 0 0 0 ekm3.2 km1.2 km0.2 (fun _ => 0 : Nat → Int32) (fun _ => 0 : Nat → Int32) (fun _ => 0 : Nat → Int32) (fun _ => 0 : Nat → Int32) (fun _ => 0 : Nat → Int32) (fun _ => 0 : Nat → Int32) (fun _ => 0 : Nat → Int32)).2
set_option maxHeartbeats 4000000 in
set_option maxRecDepth 100000 in
theorem E_km4 : km4 = ekm4 := by
  delta km4 ekm4
  rw [E_fX12_step, E_km3]
set_option maxHeartbeats 4000000 in
set_option maxRecDepth 100000 in
theorem v0_t : (tX11_put 1 16777215 (fun _ => 0 : Nat → Int32)) = 0 := by
  decide +kernel
set_option maxHeartbeats 4000000 in
set_option maxRecDepth 100000 in
theorem v1_t : (tX11_key 1 1 (fun _ => 0 : Nat → Int32)) = 0 := by
  decide +kernel
set_option maxHeartbeats 4000000 in
set_option maxRecDepth 100000 in
theorem v3_t : (tX11_write 512 (((56577 : Int32).toInt64 <<< ((32 : Int32).toInt64 &&& 63)) ||| ((268437504 : Int32).toInt64 &&& 4294967295)) 6 (fun _ => 0 : Nat → Int32)) = 0 := by
  decide +kernel
theorem v3_m : mOk km3.2 := by
  unfold km3
  exact m_write (fun _ => show byI 0 by decide)
set_option maxHeartbeats 4000000 in
set_option maxRecDepth 100000 in
theorem v4_t : (tX11_step 1 0 0 0 0 0 0 0 0 0 0 0 0 0 0 0 0 0 kc2 kc3 kc1 kc0 0 (fun _ => 0 : Nat → Int32) 0 (fun _ => 0 : Nat → Int32) (fun _ => 0 : Nat → Int32) (fun _ => 0 : Nat → Int32) (fun _ => 0 : Nat → Int32)) = 0 := by
  decide +kernel
theorem v4_a : in24 km2.2.2.2.2.2.2.2.2.2 := ⟨by decide +kernel, by decide +kernel⟩
set_option maxHeartbeats 4000000 in
set_option maxRecDepth 100000 in
theorem v5_h : ∀ a : Nat, a < 64 → ∀ b : Nat, b < 128 → 128 * a + b = 43 ∨ fX6_get (nI (128 * a + b)) kc4.2.2.2.2.2.2.2.2.2.2.2.2.2.2.2.2.2.2.1 = km4.2.2.2.2.2.2.2.2.2.2.2.2.2.2.2.2.1 (128 * a + b) := by
  rw [E_kc4, E_km4]
  decide +kernel
set_option maxHeartbeats 4000000 in
set_option maxRecDepth 100000 in
theorem v5_d : fX6_get (nI 43) kc4.2.2.2.2.2.2.2.2.2.2.2.2.2.2.2.2.2.2.1 * (nI 43 + 1) = km4.2.2.2.2.2.2.2.2.2.2.2.2.2.2.2.2.1 43 * (nI 43 + 1) + (-44) := by
  rw [E_kc4, E_km4]
  decide +kernel
theorem v5_q1 : ¬ (fX11_sum kc4.2.2.2.2.2.2.2.2.2.2.2.2.2.2.2.2.2.2.1) = (fX12_sum km4.1 km4.2.2.2.2.2.2.2.2.2.2.2.2.2.2.2.2.1).1 := by
  intro e
  have hs := sm_all (t := km4.1) v5_d v5_h
  rw [e] at hs
  exact absurd (Int32.left_eq_add.mp hs) (by decide)
