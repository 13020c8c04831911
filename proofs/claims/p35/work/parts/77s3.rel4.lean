/-! the numbers of both worlds: depth, where, seconds, torn, seed, costs -/
/-! what the calls ahead and in truth answer in both worlds -/
