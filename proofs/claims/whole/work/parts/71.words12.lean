/-! further words -/

