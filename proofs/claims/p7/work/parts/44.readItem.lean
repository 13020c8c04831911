theorem hi_X3_readItem_3 : ∀ w ∈ u_ws RX3 TX3 8, w ∈ wsX3_readItem := fun w h => (goodIn_r (u_ws RX3 TX3 8) [105, 106, 107, 108, 109, 110, 111, 112] rfl (by decide +kernel) w h).1
