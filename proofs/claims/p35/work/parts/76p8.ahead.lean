/-! the cases ahead and the line: what both worlds reckon -/
