noncomputable def kc0 : (Nat → Int32) := (fX11_put 3 16777215 (fun _ => 0 : Nat → Int32))
noncomputable def km0 : (Int32 × (Nat → Int32)) := (fX12_put 3 16777215 0 (fun _ => 0 : Nat → Int32))
noncomputable def kc1 : (Nat → Int32) := (fX11_key 1 1 (fun _ => 0 : Nat → Int32)).2
noncomputable def ko1 : Nat → Int64 := (vp_updL (fun _ => 0) (0 : Int32).toNatClampNeg (((fX11_key 1 1 (fun _ => 0 : Nat → Int32)).1 : Int32).toInt64))
noncomputable def km1 : (Int32 × (Nat → Int32)) := (fX12_key 1 1 km0.1 (fun _ => 0 : Nat → Int32)).2
noncomputable def kc2 : Int64 := (fX11_load (((1199570944 : Int32).toInt64 <<< ((32 : Int32).toInt64 &&& 63)) ||| ((512 : Int32).toInt64 &&& 4294967295)) 0)
noncomputable def km2 : (Int32 × Int32 × Int32 × Int32 × Int32 × Int32 × Int32 × Int32 × Int32 × Int32) := (fX12_load (((1199570944 : Int32).toInt64 <<< ((32 : Int32).toInt64 &&& 63)) ||| ((512 : Int32).toInt64 &&& 4294967295)) km1.1 0 0 0 0 0 0 0 0 0)
noncomputable def kc3 : (Nat → Int32) := (fX11_write 512 (((56577 : Int32).toInt64 <<< ((32 : Int32).toInt64 &&& 63)) ||| ((805308416 : Int32).toInt64 &&& 4294967295)) 6 (fun _ => 0 : Nat → Int32))
noncomputable def ekc3 : (Nat → Int32) := (efX11_write 512 (((56577 : Int32).toInt64 <<< ((32 : Int32).toInt64 &&& 63)) ||| ((805308416 : Int32).toInt64 &&& 4294967295)) 6 (fun _ => 0 : Nat → Int32))
set_option maxHeartbeats 4000000 in
set_option maxRecDepth 100000 in
theorem E_kc3 : kc3 = ekc3 := by
  delta kc3 ekc3
  rw [E_fX11_write]
noncomputable def km3 : (Int32 × (Nat → Int32)) := (fX12_write 512 (((56577 : Int32).toInt64 <<< ((32 : Int32).toInt64 &&& 63)) ||| ((805308416 : Int32).toInt64 &&& 4294967295)) 6 km2.1 (fun _ => 0 : Nat → Int32))
noncomputable def ekm3 : (Int32 × (Nat → Int32)) := (efX12_write 512 (((56577 : Int32).toInt64 <<< ((32 : Int32).toInt64 &&& 63)) ||| ((805308416 : Int32).toInt64 &&& 4294967295)) 6 km2.1 (fun _ => 0 : Nat → Int32))
set_option maxHeartbeats 4000000 in
set_option maxRecDepth 100000 in
theorem E_km3 : km3 = ekm3 := by
  delta km3 ekm3
  rw [E_fX12_write]
noncomputable def kc4 : (Nat → Int32) := (fX11_write 111 (((0 : Int32).toInt64 <<< ((32 : Int32).toInt64 &&& 63)) ||| ((40 : Int32).toInt64 &&& 4294967295)) 1 kc3)
noncomputable def ekc4 : (Nat → Int32) := (efX11_write 111 (((0 : Int32).toInt64 <<< ((32 : Int32).toInt64 &&& 63)) ||| ((40 : Int32).toInt64 &&& 4294967295)) 1 ekc3)
set_option maxHeartbeats 4000000 in
set_option maxRecDepth 100000 in
theorem E_kc4 : kc4 = ekc4 := by
  delta kc4 ekc4
  rw [E_fX11_write, E_kc3]
noncomputable def km4 : (Int32 × (Nat → Int32)) := (fX12_write 111 (((0 : Int32).toInt64 <<< ((32 : Int32).toInt64 &&& 63)) ||| ((40 : Int32).toInt64 &&& 4294967295)) 1 km3.1 km3.2)
noncomputable def ekm4 : (Int32 × (Nat → Int32)) := (efX12_write 111 (((0 : Int32).toInt64 <<< ((32 : Int32).toInt64 &&& 63)) ||| ((40 : Int32).toInt64 &&& 4294967295)) 1 ekm3.1 ekm3.2)
set_option maxHeartbeats 4000000 in
set_option maxRecDepth 100000 in
theorem E_km4 : km4 = ekm4 := by
  delta km4 ekm4
  rw [E_fX12_write, E_km3]
noncomputable def kc5 : (Int32 × Int32 × Int32 × Int32 × Int32 × Int32 × Int32 × Int32 × Int32 × Int32 × Int32 × Int32 × Int32 × Int32 × Int32 × Int32 × Int32 × Int64 × (Nat → Int32) × (Nat → Int32) × (Nat → Int32) × Int32 × (Nat → Int32) × Int32 × (Nat → Int32) × (Nat → Int32) × (Nat → Int32) × (Nat → Int32)) := (fX11_step 2 0 0 0 0 0 0 0 0 0 0 0 0 0 0 0 0 0 kc2 kc4 kc1 kc0 0 (fun _ => 0 : Nat → Int32) 0 (fun _ => 0 : Nat → Int32) (fun _ => 0 : Nat → Int32) (fun _ => 0 : Nat → Int32) (fun _ => 0 : Nat → Int32)).2
noncomputable def ekc5 : (Int32 × Int32 × Int32 × Int32 × Int32 × Int32 × Int32 × Int32 × Int32 × Int32 × Int32 × Int32 × Int32 × Int32 × Int32 × Int32 × Int32 × Int64 × (Nat → Int32) × (Nat → Int32) × (Nat → Int32) × Int32 × (Nat → Int32) × Int32 × (Nat → Int32) × (Nat → Int32) × (Nat → Int32) × (Nat → Int32)) := (efX11_step 2 0 0 0 0 0 0 0 0 0 0 0 0 0 0 0 0 0 kc2 ekc4 kc1 kc0 0 (fun _ => 0 : Nat → Int32) 0 (fun _ => 0 : Nat → Int32) (fun _ => 0 : Nat → Int32) (fun _ => 0 : Nat → Int32) (fun _ => 0 : Nat → Int32)).2
set_option maxHeartbeats 4000000 in
set_option maxRecDepth 100000 in
theorem E_kc5 : kc5 = ekc5 := by
  delta kc5 ekc5
  rw [E_fX11_step, E_kc4]
noncomputable def ko5 : Nat → Int64 := (vp_updL ko1 (0 : Int32).toNatClampNeg (((fX11_step 2 0 0 0 0 0 0 0 0 0 0 0 0 0 0 0 0 0 kc2 kc4 kc1 kc0 0 (fun _ => 0 : Nat → Int32) 0 (fun _ => 0 : Nat → Int32) (fun _ => 0 : Nat → Int32) (fun _ => 0 : Nat → Int32) (fun _ => 0 : Nat → Int32)).1 : Int32).toInt64))
noncomputable def eko5 : Nat → Int64 := (vp_updL ko1 (0 : Int32).toNatClampNeg (((efX11_step 2 0 0 0 0 0 0 0 0 0 0 0 0 0 0 0 0 0 kc2 ekc4 kc1 kc0 0 (fun _ => 0 : Nat → Int32) 0 (fun _ => 0 : Nat → Int32) (fun _ => 0 : Nat → Int32) (fun _ => 0 : Nat → Int32) (fun _ => 0 : Nat → Int32)).1 : Int32).toInt64))
set_option maxHeartbeats 4000000 in
set_option maxRecDepth 100000 in
theorem E_ko5 : ko5 = eko5 := by
  delta ko5 eko5
  rw [E_fX11_step, E_kc4]
noncomputable def km5 : (Int32 × Int32 × Int32 × Int32 × Int32 × Int32 × Int32 × Int32 × Int32 × Int32 × Int32 × Int32 × Int32 × Int32 × Int32 × Int32 × (Nat → Int32) × (Nat → Int32) × (Nat → Int32) × (Nat → Int32) × (Nat → Int32) × (Nat → Int32) × (Nat → Int32) × (Nat → Int32) × (Nat → Int32) × (Nat → Int32)) := (fX12_step 2 km4.1 km2.2.1 km2.2.2.1 km2.2.2.2.1 km2.2.2.2.2.1 km2.2.2.2.2.2.1 km2.2.2.2.2.2.2.1 km2.2.2.2.2.2.2.2.1 km2.2.2.2.2.2.2.2.2.1 km2.2.2.2.2.2.2.2.2.2 0 0 0 0 0 0 km4.2 km1.2 km0.2 (fun _ => 0 : Nat → Int32) (fun _ => 0 : Nat → Int32) (fun _ => 0 : Nat → Int32) (fun _ => 0 : Nat → Int32) (fun _ => 0 : Nat → Int32) (fun _ => 0 : Nat → Int32) (fun _ => 0 : Nat → Int32)).2
noncomputable def ekm5 : (Int32 × Int32 × Int32 × Int32 × Int32 × Int32 × Int32 × Int32 × Int32 × Int32 × Int32 × Int32 × Int32 × Int32 × Int32 × Int32 × (Nat → Int32) × (Nat → Int32) × (Nat → Int32) × (Nat → Int32) × (Nat → Int32) × (Nat → Int32) × (Nat → Int32) × (Nat → Int32) × (Nat → Int32) × (Nat → Int32)) := (efX12_step 2 ekm4.1 km2.2.1 km2.2.2.1 km2.2.2.2.1 km2.2.2.2.2.1 km2.2.2.2.2.2.1 km2.2.2.2.2.2.2.1 km2.2.2.2.2.2.2.2.1 km2.2.2.2.2.2.2.2.2.1 km2.2.2.2.2.2.2.2.2.2 0 0 0 0 0 0 ekm4.2 km1.2 km0.2 (fun _ => 0 : Nat → Int32) (fun _ => 0 : Nat → Int32) (fun _ => 0 : Nat → Int32) (fun _ => 0 : Nat → Int32) (fun _ => 0 : Nat → Int32) (fun _ => 0 : Nat → Int32) (fun _ => 0 : Nat → Int32)).2
set_option maxHeartbeats 4000000 in
set_option maxRecDepth 100000 in
theorem E_km5 : km5 = ekm5 := by
  delta km5 ekm5
  rw [E_fX12_step, E_km4]
set_option maxHeartbeats 4000000 in
set_option maxRecDepth 100000 in
theorem v0_t : (tX11_put 3 16777215 (fun _ => 0 : Nat → Int32)) = 0 := by
  decide +kernel
set_option maxHeartbeats 4000000 in
set_option maxRecDepth 100000 in
theorem v1_t : (tX11_key 1 1 (fun _ => 0 : Nat → Int32)) = 0 := by
  decide +kernel
set_option maxHeartbeats 4000000 in
set_option maxRecDepth 100000 in
theorem v3_t : (tX11_write 512 (((56577 : Int32).toInt64 <<< ((32 : Int32).toInt64 &&& 63)) ||| ((805308416 : Int32).toInt64 &&& 4294967295)) 6 (fun _ => 0 : Nat → Int32)) = 0 := by
  decide +kernel
theorem v3_m : mOk km3.2 := by
  unfold km3
  exact m_write (fun _ => show byI 0 by decide)
set_option maxHeartbeats 4000000 in
set_option maxRecDepth 100000 in
theorem v4_t : (tX11_write 111 (((0 : Int32).toInt64 <<< ((32 : Int32).toInt64 &&& 63)) ||| ((40 : Int32).toInt64 &&& 4294967295)) 1 kc3) = 0 := by
  decide +kernel
theorem v4_m : mOk km4.2 := by
  unfold km4
  exact m_write v3_m
set_option maxHeartbeats 4000000 in
set_option maxRecDepth 100000 in
theorem v5_t : (tX11_step 2 0 0 0 0 0 0 0 0 0 0 0 0 0 0 0 0 0 kc2 kc4 kc1 kc0 0 (fun _ => 0 : Nat → Int32) 0 (fun _ => 0 : Nat → Int32) (fun _ => 0 : Nat → Int32) (fun _ => 0 : Nat → Int32) (fun _ => 0 : Nat → Int32)) = 0 := by
  decide +kernel
theorem v5_a : in24 km2.2.2.2.2.2.2.2.2.2 := ⟨by decide +kernel, by decide +kernel⟩
set_option maxHeartbeats 4000000 in
set_option maxRecDepth 100000 in
theorem v6_q1 : ¬ (lg_cmp ((fX11_status kc5.2.2.2.2.2.2.2.2.2.2.2.2.2.2.2.2.2.1)) ((fX12_status km5.1 km5.2.1 km5.2.2.1 km5.2.2.2.1 km5.2.2.2.2.1 km5.2.2.2.2.2.1 km5.2.2.2.2.2.2.1 km5.2.2.2.2.2.2.2.1 km5.2.2.2.2.2.2.2.2.1 km5.2.2.2.2.2.2.2.2.2.1).1)) = 0 := by
  rw [E_kc5, E_km5]
  decide +kernel
