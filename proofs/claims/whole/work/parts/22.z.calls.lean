/-! what a call asks of a name -/
