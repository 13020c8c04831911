/-! the line -/
/-! the hurry of most cases; a told row of pulls -/
