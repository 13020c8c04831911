theorem hi_X3_tell_3 : ∀ w ∈ u_ws RX3 TX3 8, w ∈ wsX3_tell := fun w h => (goodIn_r (u_ws RX3 TX3 8) [55, 56, 57, 58, 59, 60, 61, 62] rfl (by decide +kernel) w h).1
