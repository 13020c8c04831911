/-! what is pulled, freed, rested: what comes of it, and the bodies that ran -/
