theorem hi_X3_takeLetters_4 : ∀ w ∈ u_ws RX4 TX4 3, w ∈ wsX3_takeLetters := fun w h => (goodIn_r (u_ws RX4 TX4 3) [19, 20, 21] rfl (by decide +kernel) w h).1
theorem hi_X3_takeLetters_3 : ∀ w ∈ u_ws RX3 TX3 8, w ∈ wsX3_takeLetters := fun w h => (goodIn_r (u_ws RX3 TX3 8) [22, 23, 24, 25, 26, 27, 28, 29] rfl (by decide +kernel) w h).1
theorem hi_X3_read_3 : ∀ w ∈ u_ws RX3 TX3 8, w ∈ wsX3_read := fun w h => (goodIn_r (u_ws RX3 TX3 8) [129, 130, 131, 132, 133, 134, 135, 136] rfl (by decide +kernel) w h).1
