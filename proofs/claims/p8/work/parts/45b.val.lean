noncomputable def kc0 : (Nat → Int32) := (fX11_put 1 107 (fun _ => 0 : Nat → Int32))
noncomputable def km0 : (Int32 × (Nat → Int32)) := (fX12_put 1 107 0 (fun _ => 0 : Nat → Int32))
noncomputable def kc1 : (Nat → Int32) := (fX11_put 2 200 kc0)
noncomputable def km1 : (Int32 × (Nat → Int32)) := (fX12_put 2 200 km0.1 km0.2)
noncomputable def kc2 : (Nat → Int32) := (fX11_put 3 16777215 kc1)
noncomputable def km2 : (Int32 × (Nat → Int32)) := (fX12_put 3 16777215 km1.1 km1.2)
noncomputable def kc3 : (Nat → Int32) := (fX11_key 1 1 (fun _ => 0 : Nat → Int32)).2
noncomputable def ko3 : Nat → Int64 := (vp_updL (fun _ => 0) (0 : Int32).toNatClampNeg (((fX11_key 1 1 (fun _ => 0 : Nat → Int32)).1 : Int32).toInt64))
noncomputable def km3 : (Int32 × (Nat → Int32)) := (fX12_key 1 1 km2.1 (fun _ => 0 : Nat → Int32)).2
noncomputable def kc4 : Int64 := (fX11_load (((1109458944 : Int32).toInt64 <<< ((32 : Int32).toInt64 &&& 63)) ||| ((512 : Int32).toInt64 &&& 4294967295)) 0)
noncomputable def km4 : (Int32 × Int32 × Int32 × Int32 × Int32 × Int32 × Int32 × Int32 × Int32 × Int32) := (fX12_load (((1109458944 : Int32).toInt64 <<< ((32 : Int32).toInt64 &&& 63)) ||| ((512 : Int32).toInt64 &&& 4294967295)) km3.1 0 0 0 0 0 0 0 0 0)
noncomputable def kc5 : (Nat → Int32) := (fX11_write 512 (((56577 : Int32).toInt64 <<< ((32 : Int32).toInt64 &&& 63)) ||| ((805308416 : Int32).toInt64 &&& 4294967295)) 6 (fun _ => 0 : Nat → Int32))
noncomputable def ekc5 : (Nat → Int32) := (efX11_write 512 (((56577 : Int32).toInt64 <<< ((32 : Int32).toInt64 &&& 63)) ||| ((805308416 : Int32).toInt64 &&& 4294967295)) 6 (fun _ => 0 : Nat → Int32))
set_option maxHeartbeats 4000000 in
set_option maxRecDepth 100000 in
theorem E_kc5 : kc5 = ekc5 := by
  delta kc5 ekc5
  rw [E_fX11_write]
noncomputable def km5 : (Int32 × (Nat → Int32)) := (fX12_write 512 (((56577 : Int32).toInt64 <<< ((32 : Int32).toInt64 &&& 63)) ||| ((805308416 : Int32).toInt64 &&& 4294967295)) 6 km4.1 (fun _ => 0 : Nat → Int32))
noncomputable def ekm5 : (Int32 × (Nat → Int32)) := (efX12_write 512 (((56577 : Int32).toInt64 <<< ((32 : Int32).toInt64 &&& 63)) ||| ((805308416 : Int32).toInt64 &&& 4294967295)) 6 km4.1 (fun _ => 0 : Nat → Int32))
set_option maxHeartbeats 4000000 in
set_option maxRecDepth 100000 in
theorem E_km5 : km5 = ekm5 := by
  delta km5 ekm5
  rw [E_fX12_write]
noncomputable def kc6 : (Nat → Int32) := (fX11_write 111 (((0 : Int32).toInt64 <<< ((32 : Int32).toInt64 &&& 63)) ||| ((40 : Int32).toInt64 &&& 4294967295)) 1 kc5)
noncomputable def ekc6 : (Nat → Int32) := (efX11_write 111 (((0 : Int32).toInt64 <<< ((32 : Int32).toInt64 &&& 63)) ||| ((40 : Int32).toInt64 &&& 4294967295)) 1 ekc5)
set_option maxHeartbeats 4000000 in
set_option maxRecDepth 100000 in
theorem E_kc6 : kc6 = ekc6 := by
  delta kc6 ekc6
  rw [E_fX11_write, E_kc5]
noncomputable def km6 : (Int32 × (Nat → Int32)) := (fX12_write 111 (((0 : Int32).toInt64 <<< ((32 : Int32).toInt64 &&& 63)) ||| ((40 : Int32).toInt64 &&& 4294967295)) 1 km5.1 km5.2)
noncomputable def ekm6 : (Int32 × (Nat → Int32)) := (efX12_write 111 (((0 : Int32).toInt64 <<< ((32 : Int32).toInt64 &&& 63)) ||| ((40 : Int32).toInt64 &&& 4294967295)) 1 ekm5.1 ekm5.2)
set_option maxHeartbeats 4000000 in
set_option maxRecDepth 100000 in
theorem E_km6 : km6 = ekm6 := by
  delta km6 ekm6
  rw [E_fX12_write, E_km5]
noncomputable def kc7 : (Nat → Int32) := (fX11_write 200 (((0 : Int32).toInt64 <<< ((32 : Int32).toInt64 &&& 63)) ||| ((2080 : Int32).toInt64 &&& 4294967295)) 2 kc6)
noncomputable def ekc7 : (Nat → Int32) := (efX11_write 200 (((0 : Int32).toInt64 <<< ((32 : Int32).toInt64 &&& 63)) ||| ((2080 : Int32).toInt64 &&& 4294967295)) 2 ekc6)
set_option maxHeartbeats 4000000 in
set_option maxRecDepth 100000 in
theorem E_kc7 : kc7 = ekc7 := by
  delta kc7 ekc7
  rw [E_fX11_write, E_kc6]
noncomputable def km7 : (Int32 × (Nat → Int32)) := (fX12_write 200 (((0 : Int32).toInt64 <<< ((32 : Int32).toInt64 &&& 63)) ||| ((2080 : Int32).toInt64 &&& 4294967295)) 2 km6.1 km6.2)
noncomputable def ekm7 : (Int32 × (Nat → Int32)) := (efX12_write 200 (((0 : Int32).toInt64 <<< ((32 : Int32).toInt64 &&& 63)) ||| ((2080 : Int32).toInt64 &&& 4294967295)) 2 ekm6.1 ekm6.2)
set_option maxHeartbeats 4000000 in
set_option maxRecDepth 100000 in
theorem E_km7 : km7 = ekm7 := by
  delta km7 ekm7
  rw [E_fX12_write, E_km6]
noncomputable def kc8 : (Int32 × Int32 × Int32 × Int32 × Int32 × Int32 × Int32 × Int32 × Int32 × Int32 × Int32 × Int32 × Int32 × Int32 × Int32 × Int32 × Int32 × Int64 × (Nat → Int32) × (Nat → Int32) × (Nat → Int32) × Int32 × (Nat → Int32) × Int32 × (Nat → Int32) × (Nat → Int32) × (Nat → Int32) × (Nat → Int32)) := (fX11_step 4 0 0 0 0 0 0 0 0 0 0 0 0 0 0 0 0 0 kc4 kc7 kc3 kc2 0 (fun _ => 0 : Nat → Int32) 0 (fun _ => 0 : Nat → Int32) (fun _ => 0 : Nat → Int32) (fun _ => 0 : Nat → Int32) (fun _ => 0 : Nat → Int32)).2
noncomputable def ekc8 : (Int32 × Int32 × Int32 × Int32 × Int32 × Int32 × Int32 × Int32 × Int32 × Int32 × Int32 × Int32 × Int32 × Int32 × Int32 × Int32 × Int32 × Int64 × (Nat → Int32) × (Nat → Int32) × (Nat → Int32) × Int32 × (Nat → Int32) × Int32 × (Nat → Int32) × (Nat → Int32) × (Nat → Int32) × (Nat → Int32)) := (efX11_step 4 0 0 0 0 0 0 0 0 0 0 0 0 0 0 0 0 0 kc4 ekc7 kc3 kc2 0 (fun _ => 0 : Nat → Int32) 0 (fun _ => 0 : Nat → Int32) (fun _ => 0 : Nat → Int32) (fun _ => 0 : Nat → Int32) (fun _ => 0 : Nat → Int32)).2
set_option maxHeartbeats 4000000 in
set_option maxRecDepth 100000 in
theorem E_kc8 : kc8 = ekc8 := by
  delta kc8 ekc8
  rw [E_fX11_step, E_kc7]
noncomputable def ko8 : Nat → Int64 := (vp_updL ko3 (0 : Int32).toNatClampNeg (((fX11_step 4 0 0 0 0 0 0 0 0 0 0 0 0 0 0 0 0 0 kc4 kc7 kc3 kc2 0 (fun _ => 0 : Nat → Int32) 0 (fun _ => 0 : Nat → Int32) (fun _ => 0 : Nat → Int32) (fun _ => 0 : Nat → Int32) (fun _ => 0 : Nat → Int32)).1 : Int32).toInt64))
noncomputable def eko8 : Nat → Int64 := (vp_updL ko3 (0 : Int32).toNatClampNeg (((efX11_step 4 0 0 0 0 0 0 0 0 0 0 0 0 0 0 0 0 0 kc4 ekc7 kc3 kc2 0 (fun _ => 0 : Nat → Int32) 0 (fun _ => 0 : Nat → Int32) (fun _ => 0 : Nat → Int32) (fun _ => 0 : Nat → Int32) (fun _ => 0 : Nat → Int32)).1 : Int32).toInt64))
set_option maxHeartbeats 4000000 in
set_option maxRecDepth 100000 in
theorem E_ko8 : ko8 = eko8 := by
  delta ko8 eko8
  rw [E_fX11_step, E_kc7]
noncomputable def km8 : (Int32 × Int32 × Int32 × Int32 × Int32 × Int32 × Int32 × Int32 × Int32 × Int32 × Int32 × Int32 × Int32 × Int32 × Int32 × Int32 × (Nat → Int32) × (Nat → Int32) × (Nat → Int32) × (Nat → Int32) × (Nat → Int32) × (Nat → Int32) × (Nat → Int32) × (Nat → Int32) × (Nat → Int32) × (Nat → Int32)) := (fX12_step 4 km7.1 km4.2.1 km4.2.2.1 km4.2.2.2.1 km4.2.2.2.2.1 km4.2.2.2.2.2.1 km4.2.2.2.2.2.2.1 km4.2.2.2.2.2.2.2.1 km4.2.2.2.2.2.2.2.2.1 km4.2.2.2.2.2.2.2.2.2 0 0 0 0 0 0 km7.2 km3.2 km2.2 (fun _ => 0 : Nat → Int32) (fun _ => 0 : Nat → Int32) (fun _ => 0 : Nat → Int32) (fun _ => 0 : Nat → Int32) (fun _ => 0 : Nat → Int32) (fun _ => 0 : Nat → Int32) (fun _ => 0 : Nat → Int32)).2
noncomputable def ekm8 : (Int32 × Int32 × Int32 × Int32 × Int32 × Int32 × Int32 × Int32 × Int32 × Int32 × Int32 × Int32 × Int32 × Int32 × Int32 × Int32 × (Nat → Int32) × (Nat → Int32) × (Nat → Int32) × (Nat → Int32) × (Nat → Int32) × (Nat → Int32) × (Nat → Int32) × (Nat → Int32) × (Nat → Int32) × (Nat → Int32)) := (efX12_step 4 ekm7.1 km4.2.1 km4.2.2.1 km4.2.2.2.1 km4.2.2.2.2.1 km4.2.2.2.2.2.1 km4.2.2.2.2.2.2.1 km4.2.2.2.2.2.2.2.1 km4.2.2.2.2.2.2.2.2.1 km4.2.2.2.2.2.2.2.2.2 0 0 0 0 0 0 ekm7.2 km3.2 km2.2 (fun _ => 0 : Nat → Int32) (fun _ => 0 : Nat → Int32) (fun _ => 0 : Nat → Int32) (fun _ => 0 : Nat → Int32) (fun _ => 0 : Nat → Int32) (fun _ => 0 : Nat → Int32) (fun _ => 0 : Nat → Int32)).2
set_option maxHeartbeats 4000000 in
set_option maxRecDepth 100000 in
theorem E_km8 : km8 = ekm8 := by
  delta km8 ekm8
  rw [E_fX12_step, E_km7]
set_option maxHeartbeats 4000000 in
set_option maxRecDepth 100000 in
theorem v0_t : (tX11_put 1 107 (fun _ => 0 : Nat → Int32)) = 0 := by
  decide +kernel
set_option maxHeartbeats 4000000 in
set_option maxRecDepth 100000 in
theorem v1_t : (tX11_put 2 200 kc0) = 0 := by
  decide +kernel
set_option maxHeartbeats 4000000 in
set_option maxRecDepth 100000 in
theorem v2_t : (tX11_put 3 16777215 kc1) = 0 := by
  decide +kernel
set_option maxHeartbeats 4000000 in
set_option maxRecDepth 100000 in
theorem v3_t : (tX11_key 1 1 (fun _ => 0 : Nat → Int32)) = 0 := by
  decide +kernel
set_option maxHeartbeats 4000000 in
set_option maxRecDepth 100000 in
theorem v3_q1 : (fX12_thrown (fX12_key 1 1 km2.1 (fun _ => 0 : Nat → Int32)).2.1) = 0 := by
  decide +kernel
set_option maxHeartbeats 4000000 in
set_option maxRecDepth 100000 in
theorem v3_q2 : (lg_cmp (((vp_updL (fun _ => 0) (0 : Int32).toNatClampNeg (((fX11_key 1 1 (fun _ => 0 : Nat → Int32)).1 : Int32).toInt64)) (0 : Int32).toNatClampNeg)) (((fX12_key 1 1 km2.1 (fun _ => 0 : Nat → Int32)).1 : Int32).toInt64)) = 0 := by
  decide +kernel
set_option maxHeartbeats 4000000 in
set_option maxRecDepth 100000 in
theorem v5_t : (tX11_write 512 (((56577 : Int32).toInt64 <<< ((32 : Int32).toInt64 &&& 63)) ||| ((805308416 : Int32).toInt64 &&& 4294967295)) 6 (fun _ => 0 : Nat → Int32)) = 0 := by
  decide +kernel
theorem v5_m : mOk km5.2 := by
  unfold km5
  exact m_write (fun _ => show byI 0 by decide)
set_option maxHeartbeats 4000000 in
set_option maxRecDepth 100000 in
theorem v6_t : (tX11_write 111 (((0 : Int32).toInt64 <<< ((32 : Int32).toInt64 &&& 63)) ||| ((40 : Int32).toInt64 &&& 4294967295)) 1 kc5) = 0 := by
  decide +kernel
theorem v6_m : mOk km6.2 := by
  unfold km6
  exact m_write v5_m
set_option maxHeartbeats 4000000 in
set_option maxRecDepth 100000 in
theorem v7_t : (tX11_write 200 (((0 : Int32).toInt64 <<< ((32 : Int32).toInt64 &&& 63)) ||| ((2080 : Int32).toInt64 &&& 4294967295)) 2 kc6) = 0 := by
  decide +kernel
theorem v7_m : mOk km7.2 := by
  unfold km7
  exact m_write v6_m
set_option maxHeartbeats 4000000 in
set_option maxRecDepth 100000 in
theorem v8_t : (tX11_step 4 0 0 0 0 0 0 0 0 0 0 0 0 0 0 0 0 0 kc4 kc7 kc3 kc2 0 (fun _ => 0 : Nat → Int32) 0 (fun _ => 0 : Nat → Int32) (fun _ => 0 : Nat → Int32) (fun _ => 0 : Nat → Int32) (fun _ => 0 : Nat → Int32)) = 0 := by
  decide +kernel
theorem v8_a : in24 km4.2.2.2.2.2.2.2.2.2 := ⟨by decide +kernel, by decide +kernel⟩
set_option maxHeartbeats 4000000 in
set_option maxRecDepth 100000 in
theorem v9_t : (tX11_key 0 0 kc8.2.2.2.2.2.2.2.2.2.2.2.2.2.2.2.2.2.2.2.1) = 0 := by
  decide +kernel
set_option maxHeartbeats 4000000 in
set_option maxRecDepth 100000 in
theorem v9_q1 : (fX12_thrown (fX12_key 0 0 km8.1 km8.2.2.2.2.2.2.2.2.2.2.2.2.2.2.2.2.2.1).2.1) = 0 := by
  rw [E_km8]
  decide +kernel
set_option maxHeartbeats 4000000 in
set_option maxRecDepth 100000 in
theorem v9_q2 : ¬ (lg_cmp (((vp_updL ko8 (0 : Int32).toNatClampNeg (((fX11_key 0 0 kc8.2.2.2.2.2.2.2.2.2.2.2.2.2.2.2.2.2.2.2.1).1 : Int32).toInt64)) (0 : Int32).toNatClampNeg)) (((fX12_key 0 0 km8.1 km8.2.2.2.2.2.2.2.2.2.2.2.2.2.2.2.2.2.1).1 : Int32).toInt64)) = 0 := by
  rw [E_kc8, E_ko8, E_km8]
  decide +kernel
