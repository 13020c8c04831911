theorem hi_X0_become_0 : ∀ w ∈ u_ws RX0 TX0 9, w ∈ wsX0_become := fun w h => (goodIn_r (u_ws RX0 TX0 9) [24, 25, 26, 27, 28, 29, 30, 31, 32] rfl (by decide +kernel) w h).1
