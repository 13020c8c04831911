/-! the runner, the pulls in truth, the days -/
