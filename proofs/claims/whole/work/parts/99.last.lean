/-! the last part -/
