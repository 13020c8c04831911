theorem hi_X4_holdRow_4 : ∀ w ∈ u_ws RX4 TX4 3, w ∈ wsX4_holdRow := fun w h => (goodIn_r (u_ws RX4 TX4 3) [8, 9, 10] rfl (by decide +kernel) w h).1
theorem hi_X4_forgetFrom_4 : ∀ w ∈ u_ws RX4 TX4 3, w ∈ wsX4_forgetFrom := fun w h => (goodIn_r (u_ws RX4 TX4 3) [2, 3, 4] rfl (by decide +kernel) w h).1
theorem hi_X4_put_4 : ∀ w ∈ u_ws RX4 TX4 3, w ∈ wsX4_put := fun w h => (goodIn_r (u_ws RX4 TX4 3) [3, 4, 5] rfl (by decide +kernel) w h).1
