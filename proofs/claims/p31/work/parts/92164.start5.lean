def zst_s0 : Nat → Int := fun k => ([0, (-1), 0, 0, 0, 0, 0, 0, 0, 0, 0, 0, (-1), 0, 0, 0, 0, 0, 0, 0, 0, 0, 0, 0, 0, 0, 0, 0, 0, (-1), 0, 0, 0, 0, 0, 0, 0, 0, 0, 0, (-1), 0, 0, 0, (-1), 0, 0, 0, 0, 0, 0, 0, 0, (-1), 0, 0, 0, 0, (-1), 0, 0, 0, 0, 0, (-1), (-1), (-1), (-1), (-1), (-1), (-1), (-1), (-1)] : List Int).getD k 0
def zst_t0 : Nat → Nat → Int := fun k => ([(fun _ => 0), (fun _ => 0), (fun _ => 0), (fun _ => 0), (zu (zu (zu (zu (fun _ => 0) 4 (-1)) 6 1) 7 3) 8 1), (fun _ => 0), (fun _ => 0), (fun _ => 0), (fun _ => 0), (fun _ => 0), (fun _ => 0), (fun _ => 0), (fun _ => 0), (zu (zu (zu (zu (zu (zu (zu (zu (fun _ => 0) 0 3417476) 1 674919554696) 2 777297172) 3 215533) 4 655) 5 271592) 6 12791) 7 661069), (fun _ => 0), (fun _ => 0), (fun _ => 0), (fun _ => 0), (fun _ => 0), (fun _ => 0), (fun _ => 0), (fun _ => 0), (fun _ => 0), (fun _ => 0), (fun _ => 0), (fun _ => 0), (fun _ => 0), (fun _ => 0), (fun _ => 0), (fun _ => 0), (fun _ => 0), (fun _ => 0), (fun _ => 0), (fun _ => 0), (fun _ => 0), (fun _ => 0), (fun _ => 0), (fun _ => 0), (zk 2), (fun _ => 0), (fun _ => 0), (fun _ => 0), (fun _ => 0), (fun _ => 0), (fun _ => 0), (fun _ => 0), (fun _ => 0), (fun _ => 0), (fun _ => 0), (fun _ => 0), (fun _ => 0), (fun _ => 0), (fun _ => 0), (fun _ => 0), (fun _ => 0), (fun _ => 0), (fun _ => 0), (fun _ => 0), (fun _ => 0), (fun _ => 0), (fun _ => 0), (fun _ => 0), (fun _ => 0), (fun _ => 0), (fun _ => 0), (fun _ => 0), (fun _ => 0), (fun _ => 0), (fun _ => 0), (zk 2), (fun _ => 0), (fun _ => 0), (fun _ => 0), (fun _ => 0), (fun _ => 0), (fun _ => 0), (fun _ => 0), (zk 2), (fun _ => 0), (fun _ => 0), (fun _ => 0), (fun _ => 0), (fun _ => 0), (fun _ => 0), (fun _ => 0), (fun _ => 0), (fun _ => 0), (fun _ => 0), (fun _ => 0), (fun _ => 0), (fun _ => 0), (fun _ => 0)] : List (Nat → Int)).getD k (fun _ => 0)
theorem zst_RI : RI (zst_t0 4) := by
  have zst_k : ∀ j : Fin 177, zlo j.val ≤ zst_t0 4 j.val ∧ zst_t0 4 j.val ≤ zhi j.val := by decide +kernel
  exact ⟨fun j hj => zst_k ⟨j, hj⟩, by decide, fun l hl => absurd hl (by have zst_e : zst_t0 4 3 = 0 := rfl; omega)⟩
set_option maxHeartbeats 4000000 in

theorem SIM5_start : SIM5 zst_s0 zst_t0 := ⟨fun p _ => by
  have e : zst_t0 48 p = 0 := rfl
  have e0 : zst_s0 30 = 0 := rfl
  have u : zi_ushr 0 13 = 0 := by decide +kernel
  rw [e, e0, u]
  exact ⟨by decide, fun h => absurd h (by decide)⟩, ⟨by decide, by decide, by decide, fun h => absurd h (by decide)⟩, fun c i hc => absurd hc (by have e : zst_s0 49 = 0 := rfl; omega), fun h => absurd rfl h, fun h => absurd rfl h⟩
